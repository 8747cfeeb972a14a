/-! ===== new fountains, jars, men ===== -/
def up2 (α : Nat → Nat → Nat) (i0 k0 a : Nat) : Nat → Nat → Nat := fun i k => if i = i0 ∧ k = k0 then a else α i k
def g_man1 (κ : cS) (n : Nat) (k w f j : Int32) : cS := cp (cp (cp (cp (cp (cp (cp (cp (cp (cp (cp (cp (cp κ 13 n k) 14 n w) 15 n f) 16 n j) 17 n 0) 18 n 2) 19 n 0) 20 n 0) 21 n 0) 22 n 0) 41 n (-1)) 24 n (-1)) 25 n (-1)
theorem kt_no {M M1 : ab_M} {a : Nat} {t : Nat × Nat} {e : va_E} (ha : M a = none) (h : M1 = ab_set M a t e) : KT (fun _ => False) M M1 := by
  rw [h]
  exact KT.new KT.rf ha
theorem cadd_man {g : ab_G} {M M1 M2 : ab_M} {α : Nat → Nat → Nat} {nf nj nm a k f j : Nat} {κ : cS} {w : Int32} (hC : CC g M α nf nj nm κ) (hW : ∀ i, i < nf → ∀ x ∈ κ.2.1 i, x < nm) (hk : k < 3) (hf : f < nf) (hj : j < nj) (hb : nf ≤ 4 ∧ nj ≤ 8 ∧ nm ≤ 10) (ha : M a = none)
    (h1 : M1 = ab_set M a (15, nm) (mC k (nI nm) w (α 10 f) (α 13 j) 0 0 0 0 0 (-1) (-1) (-1) 2)) (hK2 : KT (fun q => q = (1, 2) ∨ q = (2, 2)) M1 M2) (hL2 : aL g M2 (α 1 2) (1, 2) (2, 2) ((List.range nm).map (α 15) ++ [a])) : CC g M2 (up2 α 15 nm a) nf nj (nm + 1) (g_man1 κ nm (nI k) w (nI f) (nI j)) := by
  obtain ⟨hW0, hA, hP, hG, hU, hF, hJ, hN, hL, hQ⟩ := hC
  have hK1 := kt_no ha h1
  have hK : KT (fun q => q = (1, 2) ∨ q = (2, 2)) M M2 := (hK1.wid (fun t h => h.elim)).tr hK2
  have hmap : ∀ ls : List Nat, (∀ x ∈ ls, x < nm) → ls.map (up2 α 15 nm a 15) = ls.map (α 15) := by
    intro ls hls
    refine List.map_congr_left (fun x hx => ?_)
    have := hls x hx
    unfold up2
    rw [if_neg (by omega)]
  refine ⟨hW0.kp hK (by simp), hA.kp hK (by simp) (by simp), hP.kp hK (by simp) (by simp), hG.kp hK (by simp) (by simp), hU.kp hK (by simp), hF.kp hK (by simp), hJ.kp hK (by simp) (by simp), ?_, ⟨hL.1.keep hK (by simp) (by simp), hL.2.1.keep hK (by simp) (by simp), ?_⟩, ?_⟩
  · intro m hm
    by_cases e : m = nm
    · subst e
      have hu : ∀ (f : Nat → Int32) (v : Int32), upd f m v m = v := by simp [upd]
      have e1 : up2 α 15 m a 15 m = a := by simp [up2]
      rw [e1]
      refine (hK2 a (15, m) _ (by rw [h1]; exact ab_set_self) (by simp)).trans ?_
      show some ((15, m), mC k (nI m) w (α 10 f) (α 13 j) 0 0 0 0 0 (-1) (-1) (-1) 2) = some ((15, m), mC (upd _ m (nI k) m).toNatClampNeg (nI m) (upd _ m w m) (α 10 (upd _ m (nI f) m).toNatClampNeg) (α 13 (upd _ m (nI j) m).toNatClampNeg) (upd _ m 0 m) (upd _ m 0 m) (upd _ m 0 m) (upd _ m 0 m) (upd _ m 0 m) (upd _ m (-1) m) (upd _ m (-1) m) (upd _ m (-1) m) (upd _ m 2 m))
      simp only [hu, nI_cl (show k < 2 ^ 31 by omega), nI_cl (show f < 2 ^ 31 by omega), nI_cl (show j < 2 ^ 31 by omega)]
    · have hm2 : m < nm := by omega
      have hu : ∀ (f : Nat → Int32) (v : Int32), upd f nm v m = f m := by simp [upd, e]
      have e1 : up2 α 15 nm a 15 m = α 15 m := by simp [up2, e]
      rw [e1]
      refine (hK _ _ _ (hN m hm2) (by simp)).trans ?_
      show some ((15, m), mM α κ m) = some ((15, m), mC (upd (κ.1.2.1 13) nm (nI k) m).toNatClampNeg (nI m) (upd (κ.1.2.1 14) nm w m) (α 10 (upd (κ.1.2.1 15) nm (nI f) m).toNatClampNeg) (α 13 (upd (κ.1.2.1 16) nm (nI j) m).toNatClampNeg) (upd (κ.1.2.1 17) nm 0 m) (upd (κ.1.2.1 19) nm 0 m) (upd (κ.1.2.1 20) nm 0 m) (upd (κ.1.2.1 21) nm 0 m) (upd (κ.1.2.1 22) nm 0 m) (upd (κ.1.2.1 41) nm (-1) m) (upd (κ.1.2.1 24) nm (-1) m) (upd (κ.1.2.1 25) nm (-1) m) (upd (κ.1.2.1 18) nm 2 m))
      simp only [hu]
  · rw [List.range_succ, List.map_append, hmap _ (fun x hx => List.mem_range.mp hx)]
    have e1 : up2 α 15 nm a 15 nm = a := by simp [up2]
    rw [List.map_cons, List.map_nil, e1]
    exact hL2
  · intro i hi
    have h9 := hQ i hi
    show aL g M2 (α 11 i) (11, i) (12, i) ((κ.2.1 i).map (up2 α 15 nm a 15)) ∧ (κ.2.2 100 i = 1 → LG g M2 (α 11 i) (11, i) (12, i) ((κ.2.1 i).map (up2 α 15 nm a 15)))
    rw [hmap _ (hW i hi)]
    exact ⟨h9.1.keep hK (by simp) (by simp), fun q => (h9.2 q).keep hK (by simp) (by simp)⟩
def g_fou1 (κ : cS) (n : Nat) (w : Int32) : cS := (ra (ra (ra (ra κ.1 1 (upd (κ.1.2.1 1) n w)) 3 (upd (κ.1.2.1 3) n 1)) 2 (upd (κ.1.2.1 2) n 0)) 4 (upd (κ.1.2.1 4) n 0), (fun i => if i = n then [] else κ.2.1 i), (fun r => if r = 100 then upd (κ.2.2 100) n 0 else κ.2.2 r))
theorem cadd_fou {g : ab_G} {M M1 M2 : ab_M} {α : Nat → Nat → Nat} {nf nj nm a r : Nat} {κ : cS} {w : Int32} (hC : CC g M α nf nj nm κ) (hb : nf ≤ 4 ∧ nj ≤ 8 ∧ nm ≤ 10) (hK0 : KT (fun _ => False) M M1)
    (hr : M1 r = some ((11, nf), .inr (0, [.int 0, .ref (ab_e0 g), .int 0]))) (ha : M1 a = some ((10, nf), .inr (3, [.int (nI nf), .int w, .ref r, .int 1, .int 0, .int 0]))) (hK2 : KT (fun q => q = (1, 0) ∨ q = (2, 0)) M1 M2) (hL2 : aL g M2 (α 1 0) (1, 0) (2, 0) ((List.range nf).map (α 10) ++ [a])) (hm : ∀ m, m < nm → (κ.1.2.1 15 m).toNatClampNeg < nf) : CC g M2 (up2 (up2 α 10 nf a) 11 nf r) (nf + 1) nj nm (g_fou1 κ nf w) := by
  obtain ⟨hW0, hA, hP, hG, hU, hF, hJ, hN, hL, hQ⟩ := hC
  have hK : KT (fun q => q = (1, 0) ∨ q = (2, 0)) M M2 := (hK0.wid (fun t h => h.elim)).tr hK2
  refine ⟨hW0.kp hK (by simp), hA.kp hK (by simp) (by simp), hP.kp hK (by simp) (by simp), hG.kp hK (by simp) (by simp), hU.kp hK (by simp), ?_, ?_, ?_, ⟨?_, hL.2.1.keep hK (by simp) (by simp), hL.2.2.keep hK (by simp) (by simp)⟩, ?_⟩
  · intro m hm
    by_cases e : m = nf
    · subst e
      have hu : ∀ (f : Nat → Int32) (v : Int32), upd f m v m = v := by simp [upd]
      have e1 : up2 (up2 α 10 m a) 11 m r 10 m = a := by simp [up2]
      have e2 : up2 (up2 α 10 m a) 11 m r 11 m = r := by simp [up2]
      rw [e1]
      refine (hK2 a (10, m) _ ha (by simp)).trans ?_
      show some ((10, m), (.inr (3, [.int (nI m), .int w, .ref r, .int 1, .int 0, .int 0]) : va_E)) = some ((10, m), .inr (3, [.int (nI m), .int (upd _ m w m), .ref (up2 (up2 α 10 m a) 11 m r 11 m), .int (upd _ m 1 m), .int (upd _ m 0 m), .int (upd _ m 0 m)]))
      rw [e2]
      simp only [hu]
    · have hm2 : m < nf := by omega
      have hu : ∀ (f : Nat → Int32) (v : Int32), upd f nf v m = f m := by simp [upd, e]
      have e1 : up2 (up2 α 10 nf a) 11 nf r 10 m = α 10 m := by simp [up2, e]
      have e2 : up2 (up2 α 10 nf a) 11 nf r 11 m = α 11 m := by simp [up2, e]
      rw [e1]
      refine (hK _ _ _ (hF m hm2) (by simp)).trans ?_
      show some ((10, m), mF α κ m) = some ((10, m), .inr (3, [.int (nI m), .int (upd (κ.1.2.1 1) nf w m), .ref (up2 (up2 α 10 nf a) 11 nf r 11 m), .int (upd (κ.1.2.1 3) nf 1 m), .int (upd (κ.1.2.1 2) nf 0 m), .int (upd (κ.1.2.1 4) nf 0 m)]))
      rw [e2]
      simp only [hu]
  · intro j hj
    refine ⟨hK _ _ _ (hJ j hj).1 (by simp), ?_⟩
    have e : (g_fou1 κ nf w).2.2 j = κ.2.2 j := by
      show (if j = 100 then _ else κ.2.2 j) = _
      rw [if_neg (by omega)]
    rw [e]
    exact hK _ _ _ (hJ j hj).2 (by simp)
  · intro m hm2
    refine (hK _ _ _ (hN m hm2) (by simp)).trans ?_
    have h9 := hm m hm2
    have e : up2 (up2 α 10 nf a) 11 nf r 10 (κ.1.2.1 15 m).toNatClampNeg = α 10 (κ.1.2.1 15 m).toNatClampNeg := by
      unfold up2
      rw [if_neg (by omega), if_neg (by omega)]
    show some ((15, m), mM α κ m) = some ((15, m), mC _ _ _ (up2 (up2 α 10 nf a) 11 nf r 10 (κ.1.2.1 15 m).toNatClampNeg) _ _ _ _ _ _ _ _ _ _)
    rw [e]
    rfl
  · rw [List.range_succ, List.map_append]
    have e1 : up2 (up2 α 10 nf a) 11 nf r 10 nf = a := by simp [up2]
    have e3 : (List.range nf).map (up2 (up2 α 10 nf a) 11 nf r 10) = (List.range nf).map (α 10) := by
      refine List.map_congr_left (fun x hx => ?_)
      have := List.mem_range.mp hx
      unfold up2
      rw [if_neg (by omega), if_neg (by omega)]
    rw [List.map_cons, List.map_nil, e1, e3]
    exact hL2
  · intro i hi
    by_cases e : i = nf
    · subst e
      have e2 : up2 (up2 α 10 i a) 11 i r 11 i = r := by simp [up2]
      have e3 : (g_fou1 κ i w).2.1 i = [] := by
        show (if i = i then [] else _) = _
        rw [if_pos rfl]
      have e4 : (g_fou1 κ i w).2.2 100 i = 0 := by
        show upd _ i 0 i = 0
        simp [upd]
      rw [e2, e3, e4]
      exact ⟨Or.inr ⟨rfl, 0, hK2 _ _ _ hr (by simp)⟩, fun q => absurd q (by decide)⟩
    · have h9 := hQ i (by omega)
      have e2 : up2 (up2 α 10 nf a) 11 nf r 11 i = α 11 i := by simp [up2, e]
      have e3 : (g_fou1 κ nf w).2.1 i = κ.2.1 i := by
        show (if i = nf then [] else _) = _
        rw [if_neg e]
      have e4 : (g_fou1 κ nf w).2.2 100 i = κ.2.2 100 i := by
        show upd _ nf 0 i = _
        simp [upd, e]
      rw [e2, e3, e4]
      exact ⟨h9.1.keep hK (by simp) (by simp), fun q => (h9.2 q).keep hK (by simp) (by simp)⟩
def g_jar1 (κ : cS) (n : Nat) (fl ho : Int32) (f : Nat → Int32) : cS := (ra (ra (ra (ra (ra κ.1 6 (upd (κ.1.2.1 6) n fl)) 7 (upd (κ.1.2.1 7) n ho)) 9 (upd (κ.1.2.1 9) n 0)) 10 (upd (κ.1.2.1 10) n 0)) 11 (upd (κ.1.2.1 11) n 0), κ.2.1, (fun r => if r = n then f else κ.2.2 r))
theorem cadd_jar {g : ab_G} {M M1 M2 : ab_M} {α : Nat → Nat → Nat} {nf nj nm a p : Nat} {κ : cS} {fl ho : Int32} {f : Nat → Int32} (hC : CC g M α nf nj nm κ) (hb : nf ≤ 4 ∧ nj ≤ 8 ∧ nm ≤ 10) (hK0 : KT (fun _ => False) M M1)
    (hp : M1 p = some ((14, nj), ab_ai g 4 f)) (ha : M1 a = some ((13, nj), .inr (5, [.int (nI nj), .int fl, .int ho, .ref p, .int 0, .int 0, .int 0]))) (hK2 : KT (fun q => q = (1, 1) ∨ q = (2, 1)) M1 M2) (hL2 : aL g M2 (α 1 1) (1, 1) (2, 1) ((List.range nj).map (α 13) ++ [a])) (hm : ∀ m, m < nm → (κ.1.2.1 16 m).toNatClampNeg < nj) : CC g M2 (up2 (up2 α 13 nj a) 14 nj p) nf (nj + 1) nm (g_jar1 κ nj fl ho f) := by
  obtain ⟨hW0, hA, hP, hG, hU, hF, hJ, hN, hL, hQ⟩ := hC
  have hK : KT (fun q => q = (1, 1) ∨ q = (2, 1)) M M2 := (hK0.wid (fun t h => h.elim)).tr hK2
  refine ⟨hW0.kp hK (by simp), hA.kp hK (by simp) (by simp), hP.kp hK (by simp) (by simp), hG.kp hK (by simp) (by simp), hU.kp hK (by simp), hF.kp hK (by simp), ?_, ?_, ⟨hL.1.keep hK (by simp) (by simp), ?_, hL.2.2.keep hK (by simp) (by simp)⟩, ?_⟩
  · intro m hm
    by_cases e : m = nj
    · subst e
      have hu : ∀ (f : Nat → Int32) (v : Int32), upd f m v m = v := by simp [upd]
      have e1 : up2 (up2 α 13 m a) 14 m p 13 m = a := by simp [up2]
      have e2 : up2 (up2 α 13 m a) 14 m p 14 m = p := by simp [up2]
      have e3 : (g_jar1 κ m fl ho f).2.2 m = f := by
        show (if m = m then f else _) = _
        rw [if_pos rfl]
      rw [e1, e2, e3]
      refine ⟨(hK2 a (13, m) _ ha (by simp)).trans ?_, hK2 p (14, m) _ hp (by simp)⟩
      show some ((13, m), (.inr (5, [.int (nI m), .int fl, .int ho, .ref p, .int 0, .int 0, .int 0]) : va_E)) = some ((13, m), .inr (5, [.int (nI m), .int (upd _ m fl m), .int (upd _ m ho m), .ref (up2 (up2 α 13 m a) 14 m p 14 m), .int (upd _ m 0 m), .int (upd _ m 0 m), .int (upd _ m 0 m)]))
      rw [e2]
      simp only [hu]
    · have hm2 : m < nj := by omega
      have hu : ∀ (f : Nat → Int32) (v : Int32), upd f nj v m = f m := by simp [upd, e]
      have e1 : up2 (up2 α 13 nj a) 14 nj p 13 m = α 13 m := by simp [up2, e]
      have e2 : up2 (up2 α 13 nj a) 14 nj p 14 m = α 14 m := by simp [up2, e]
      have e3 : (g_jar1 κ nj fl ho f).2.2 m = κ.2.2 m := by
        show (if m = nj then f else _) = _
        rw [if_neg e]
      rw [e1, e2, e3]
      refine ⟨(hK _ _ _ (hJ m hm2).1 (by simp)).trans ?_, hK _ _ _ (hJ m hm2).2 (by simp)⟩
      show some ((13, m), mJ α κ m) = some ((13, m), .inr (5, [.int (nI m), .int (upd (κ.1.2.1 6) nj fl m), .int (upd (κ.1.2.1 7) nj ho m), .ref (up2 (up2 α 13 nj a) 14 nj p 14 m), .int (upd (κ.1.2.1 9) nj 0 m), .int (upd (κ.1.2.1 10) nj 0 m), .int (upd (κ.1.2.1 11) nj 0 m)]))
      rw [e2]
      simp only [hu]
  · intro m hm2
    refine (hK _ _ _ (hN m hm2) (by simp)).trans ?_
    have h9 := hm m hm2
    have e : up2 (up2 α 13 nj a) 14 nj p 13 (κ.1.2.1 16 m).toNatClampNeg = α 13 (κ.1.2.1 16 m).toNatClampNeg := by
      unfold up2
      rw [if_neg (by omega), if_neg (by omega)]
    show some ((15, m), mM α κ m) = some ((15, m), mC _ _ _ _ (up2 (up2 α 13 nj a) 14 nj p 13 (κ.1.2.1 16 m).toNatClampNeg) _ _ _ _ _ _ _ _ _)
    rw [e]
    rfl
  · rw [List.range_succ, List.map_append]
    have e1 : up2 (up2 α 13 nj a) 14 nj p 13 nj = a := by simp [up2]
    have e3 : (List.range nj).map (up2 (up2 α 13 nj a) 14 nj p 13) = (List.range nj).map (α 13) := by
      refine List.map_congr_left (fun x hx => ?_)
      have := List.mem_range.mp hx
      unfold up2
      rw [if_neg (by omega), if_neg (by omega)]
    rw [List.map_cons, List.map_nil, e1, e3]
    exact hL2
  · intro i hi
    have h9 := hQ i hi
    have e4 : (g_jar1 κ nj fl ho f).2.2 100 i = κ.2.2 100 i := by
      show (if 100 = nj then f else κ.2.2 100) i = _
      rw [if_neg (by omega)]
    rw [e4]
    exact ⟨h9.1.keep hK (by simp) (by simp), fun q => (h9.2 q).keep hK (by simp) (by simp)⟩
