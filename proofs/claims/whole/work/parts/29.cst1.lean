/-! ===== the class's state ===== -/
/-- the class's own state: scalars and rows by the reference's slots (41 setOutTime, 42 next); who waits where; minutes of the jars, and in row 100 which fountains' rows have grown -/
abbrev cS : Type := rS × (Nat → List Nat) × (Nat → Nat → Int32)
def kci (k : Nat) : Nat := if k = 0 then 6 else if k = 1 then 8 else 1
abbrev mC (k : Nat) (n w : Int32) (fa ja : Nat) (r d tg ca ea so ff ft sp : Int32) : va_E := .inr (kci k, .int n :: .int w :: .ref fa :: .ref ja :: .int r :: .int d :: .int tg :: .int ca :: .int ea :: .int so :: .int ff :: .int ft :: (if k = 2 then [.int sp] else []))
abbrev mM (α : Nat → Nat → Nat) (κ : cS) (m : Nat) : va_E := mC (κ.1.2.1 13 m).toNatClampNeg (nI m) (κ.1.2.1 14 m) (α 10 (κ.1.2.1 15 m).toNatClampNeg) (α 13 (κ.1.2.1 16 m).toNatClampNeg) (κ.1.2.1 17 m) (κ.1.2.1 19 m) (κ.1.2.1 20 m) (κ.1.2.1 21 m) (κ.1.2.1 22 m) (κ.1.2.1 41 m) (κ.1.2.1 24 m) (κ.1.2.1 25 m) (κ.1.2.1 18 m)
abbrev mF (α : Nat → Nat → Nat) (κ : cS) (i : Nat) : va_E := .inr (3, [.int (nI i), .int (κ.1.2.1 1 i), .ref (α 11 i), .int (κ.1.2.1 3 i), .int (κ.1.2.1 2 i), .int (κ.1.2.1 4 i)])
abbrev mJ (α : Nat → Nat → Nat) (κ : cS) (j : Nat) : va_E := .inr (5, [.int (nI j), .int (κ.1.2.1 6 j), .int (κ.1.2.1 7 j), .ref (α 14 j), .int (κ.1.2.1 9 j), .int (κ.1.2.1 10 j), .int (κ.1.2.1 11 j)])
def cW (M : ab_M) (α : Nat → Nat → Nat) (κ : cS) : Prop := M (α 0 0) = some ((0, 0), .inr (9, [.ref (α 1 0), .ref (α 1 1), .ref (α 1 2), .ref (α 3 0), .ref (α 5 0), .ref (α 7 0), .ref (α 9 0), .int (κ.1.1 28), .int (κ.1.1 27)]))
def cA (g : ab_G) (M : ab_M) (α : Nat → Nat → Nat) (κ : cS) : Prop := M (α 3 0) = some ((3, 0), .inr (2, [.ref (α 4 0), .ref (α 4 1), .ref (α 4 2), .int (κ.1.1 31), .int (κ.1.1 32)])) ∧ M (α 4 0) = some ((4, 0), ab_ai g 50 (κ.1.2.1 30)) ∧ M (α 4 1) = some ((4, 1), ab_ai g 10 (κ.1.2.1 33)) ∧ M (α 4 2) = some ((4, 2), ab_ai g 10 (κ.1.2.1 34))
def cP (g : ab_G) (M : ab_M) (α : Nat → Nat → Nat) (κ : cS) : Prop := M (α 5 0) = some ((5, 0), .inr (7, [.ref (α 6 0), .int (κ.1.1 42), .int (κ.1.1 35)])) ∧ M (α 6 0) = some ((6, 0), ab_ai g 600 (κ.1.2.1 36))
def cG (g : ab_G) (M : ab_M) (α : Nat → Nat → Nat) (κ : cS) : Prop := M (α 7 0) = some ((7, 0), .inr (4, [.ref (α 8 0), .ref (α 8 1), .ref (α 8 2)])) ∧ M (α 8 0) = some ((8, 0), ab_ai g 36 (κ.1.2.1 38)) ∧ M (α 8 1) = some ((8, 1), ab_ai g 64 (κ.1.2.1 39)) ∧ M (α 8 2) = some ((8, 2), ab_ai g 10 (κ.1.2.1 40))
def cU (g : ab_G) (M : ab_M) (α : Nat → Nat → Nat) (κ : cS) : Prop := M (α 9 0) = some ((9, 0), ab_al g 7 κ.1.2.2)
def cF (M : ab_M) (α : Nat → Nat → Nat) (nf : Nat) (κ : cS) : Prop := ∀ i, i < nf → M (α 10 i) = some ((10, i), mF α κ i)
def cJ (g : ab_G) (M : ab_M) (α : Nat → Nat → Nat) (nj : Nat) (κ : cS) : Prop := ∀ j, j < nj → M (α 13 j) = some ((13, j), mJ α κ j) ∧ M (α 14 j) = some ((14, j), ab_ai g 4 (κ.2.2 j))
def cN (M : ab_M) (α : Nat → Nat → Nat) (nm : Nat) (κ : cS) : Prop := ∀ m, m < nm → M (α 15 m) = some ((15, m), mM α κ m)
def cL (g : ab_G) (M : ab_M) (α : Nat → Nat → Nat) (nf nj nm : Nat) : Prop := aL g M (α 1 0) (1, 0) (2, 0) ((List.range nf).map (α 10)) ∧ aL g M (α 1 1) (1, 1) (2, 1) ((List.range nj).map (α 13)) ∧ aL g M (α 1 2) (1, 2) (2, 2) ((List.range nm).map (α 15))
def cQ (g : ab_G) (M : ab_M) (α : Nat → Nat → Nat) (nf : Nat) (κ : cS) : Prop := ∀ i, i < nf → aL g M (α 11 i) (11, i) (12, i) ((κ.2.1 i).map (α 15)) ∧ (κ.2.2 100 i = 1 → LG g M (α 11 i) (11, i) (12, i) ((κ.2.1 i).map (α 15)))
/-- the memory holds the class in state κ -/
def CC (g : ab_G) (M : ab_M) (α : Nat → Nat → Nat) (nf nj nm : Nat) (κ : cS) : Prop := cW M α κ ∧ cA g M α κ ∧ cP g M α κ ∧ cG g M α κ ∧ cU g M α κ ∧ cF M α nf κ ∧ cJ g M α nj κ ∧ cN M α nm κ ∧ cL g M α nf nj nm ∧ cQ g M α nf κ
/-- safety -/
def cI (nf nj nm : Nat) (κ : cS) : Prop := (nf ≤ 4 ∧ nj ≤ 8 ∧ nm ≤ 10) ∧ (κ.1.1 0 = nI nf ∧ κ.1.1 5 = nI nj ∧ κ.1.1 12 = nI nm) ∧ (∀ m, m < nm → ∃ i, i < nf ∧ κ.1.2.1 15 m = nI i) ∧ (∀ m, m < nm → ∃ j, j < nj ∧ κ.1.2.1 16 m = nI j) ∧ (∀ m, m < nm → ∃ k, k < 3 ∧ κ.1.2.1 13 m = nI k) ∧ (∃ n, n ≤ 50 ∧ κ.1.1 31 = nI n) ∧ (∃ n, n ≤ 100 ∧ κ.1.1 35 = nI n) ∧ (∃ n, n < 100 ∧ κ.1.1 42 = nI n) ∧ (∀ m, m < nm → ∀ i, i < nf → κ.1.2.1 15 m = nI i → κ.2.2 100 i = 1) ∧ (∀ i, i < nf → (κ.2.1 i).Nodup ∧ ∀ m ∈ κ.2.1 i, m < nm ∧ κ.1.2.1 19 m = 0 ∧ κ.1.2.1 15 m = nI i)
abbrev KH (M M2 : ab_M) : Prop := KT (fun t => t.1 < 20) M M2
theorem aL.keep {g : ab_G} {M M2 : ab_M} {a : Nat} {t td : Nat × Nat} {xs : List Nat} {S : Nat × Nat → Prop} (h : aL g M a t td xs) (hK : KT S M M2) (h1 : ¬ S t) (h2 : ¬ S td) : aL g M2 a t td xs := by
  rcases h with h | ⟨e, h⟩
  · exact Or.inl (h.keep hK h1 h2)
  · exact Or.inr ⟨e, h.keep hK h1⟩
section KP
variable {S : Nat × Nat → Prop} {g : ab_G} {M M2 : ab_M} {α : Nat → Nat → Nat} {nf nj nm : Nat} {κ : cS}
theorem cW.kp (h : cW M α κ) (hK : KT S M M2) (hs : ∀ k, ¬ S (0, k)) : cW M2 α κ := hK _ _ _ h (hs _)
theorem cA.kp (h : cA g M α κ) (hK : KT S M M2) (hs : ∀ k, ¬ S (3, k)) (hs4 : ∀ k, ¬ S (4, k)) : cA g M2 α κ := ⟨hK _ _ _ h.1 (hs _), hK _ _ _ h.2.1 (hs4 _), hK _ _ _ h.2.2.1 (hs4 _), hK _ _ _ h.2.2.2 (hs4 _)⟩
theorem cP.kp (h : cP g M α κ) (hK : KT S M M2) (hs : ∀ k, ¬ S (5, k)) (hs4 : ∀ k, ¬ S (6, k)) : cP g M2 α κ := ⟨hK _ _ _ h.1 (hs _), hK _ _ _ h.2 (hs4 _)⟩
theorem cG.kp (h : cG g M α κ) (hK : KT S M M2) (hs : ∀ k, ¬ S (7, k)) (hs4 : ∀ k, ¬ S (8, k)) : cG g M2 α κ := ⟨hK _ _ _ h.1 (hs _), hK _ _ _ h.2.1 (hs4 _), hK _ _ _ h.2.2.1 (hs4 _), hK _ _ _ h.2.2.2 (hs4 _)⟩
theorem cU.kp (h : cU g M α κ) (hK : KT S M M2) (hs : ∀ k, ¬ S (9, k)) : cU g M2 α κ := hK _ _ _ h (hs _)
theorem cF.kp (h : cF M α nf κ) (hK : KT S M M2) (hs : ∀ k, ¬ S (10, k)) : cF M2 α nf κ := fun i hi => hK _ _ _ (h i hi) (hs _)
theorem cJ.kp (h : cJ g M α nj κ) (hK : KT S M M2) (hs : ∀ k, ¬ S (13, k)) (hs4 : ∀ k, ¬ S (14, k)) : cJ g M2 α nj κ := fun i hi => ⟨hK _ _ _ (h i hi).1 (hs _), hK _ _ _ (h i hi).2 (hs4 _)⟩
theorem cN.kp (h : cN M α nm κ) (hK : KT S M M2) (hs : ∀ k, ¬ S (15, k)) : cN M2 α nm κ := fun i hi => hK _ _ _ (h i hi) (hs _)
theorem cL.kp (h : cL g M α nf nj nm) (hK : KT S M M2) (hs : ∀ k, ¬ S (1, k)) (hs4 : ∀ k, ¬ S (2, k)) : cL g M2 α nf nj nm := ⟨h.1.keep hK (hs _) (hs4 _), h.2.1.keep hK (hs _) (hs4 _), h.2.2.keep hK (hs _) (hs4 _)⟩
theorem cQ.kp (h : cQ g M α nf κ) (hK : KT S M M2) (hs : ∀ k, ¬ S (11, k)) (hs4 : ∀ k, ¬ S (12, k)) : cQ g M2 α nf κ := fun i hi => ⟨(h i hi).1.keep hK (hs _) (hs4 _), fun q => ((h i hi).2 q).keep hK (hs _) (hs4 _)⟩
/-- two places of a group -/
theorem grp {a : Nat} {b : Nat → Nat} {n c k : Nat} {e : va_E} {f : Nat → va_E} (h : ∀ i, i < n → M (b i) = some ((c, i), f i)) (hk : k < n) (ha : a = b k) : ∀ i, i < n → i ≠ k → ab_set M a (c, k) e (b i) = some ((c, i), f i) := by
  intro i hi hne
  subst ha
  exact ab_set_tag (h k hk) (h i hi) (fun q => hne (congrArg Prod.snd q))
end KP
/-- a place of a row of the class's state -/
def cr (κ : cS) (k : Nat) (f : Nat → Int32) : cS := (ra κ.1 k f, κ.2)
abbrev cp (κ : cS) (k m : Nat) (v : Int32) : cS := cr κ k (upd (κ.1.2.1 k) m v)
def cs (κ : cS) (k : Nat) (v : Int32) : cS := (rs κ.1 k v, κ.2)
def cl (κ : cS) (k : Nat) (v : Int64) : cS := (rj κ.1 (vp_updL κ.1.2.2 k v), κ.2)
def cw (κ : cS) (i : Nat) (l : List Nat) : cS := (κ.1, fun k => if k = i then l else κ.2.1 k, κ.2.2)
set_option maxHeartbeats 1000000 in
theorem cput_M2 {g : ab_G} {M : ab_M} {α : Nat → Nat → Nat} {nf nj nm : Nat} {κ : cS} {m : Nat} (hC : CC g M α nf nj nm κ) (hm : m < nm) (v : Int32) : CC g (ab_set M (α 15 m) (15, m) (mC (κ.1.2.1 13 m).toNatClampNeg (nI m) (κ.1.2.1 14 m) (α 10 (v).toNatClampNeg) (α 13 (κ.1.2.1 16 m).toNatClampNeg) (κ.1.2.1 17 m) (κ.1.2.1 19 m) (κ.1.2.1 20 m) (κ.1.2.1 21 m) (κ.1.2.1 22 m) (κ.1.2.1 41 m) (κ.1.2.1 24 m) (κ.1.2.1 25 m) (κ.1.2.1 18 m))) α nf nj nm (cp κ 15 m v) := by
  obtain ⟨hW, hA, hP, hG, hU, hF, hJ, hN, hL, hQ⟩ := hC
  have hK : KT (fun t => t = (15, m)) M (ab_set M (α 15 m) (15, m) (mC (κ.1.2.1 13 m).toNatClampNeg (nI m) (κ.1.2.1 14 m) (α 10 (v).toNatClampNeg) (α 13 (κ.1.2.1 16 m).toNatClampNeg) (κ.1.2.1 17 m) (κ.1.2.1 19 m) (κ.1.2.1 20 m) (κ.1.2.1 21 m) (κ.1.2.1 22 m) (κ.1.2.1 41 m) (κ.1.2.1 24 m) (κ.1.2.1 25 m) (κ.1.2.1 18 m))) := KT.put KT.rf (hN m hm) rfl
  refine ⟨hW.kp hK (fun k h => by cases h), hA.kp hK (fun k h => by cases h) (fun k h => by cases h), hP.kp hK (fun k h => by cases h) (fun k h => by cases h), hG.kp hK (fun k h => by cases h) (fun k h => by cases h), hU.kp hK (fun k h => by cases h), hF.kp hK (fun k h => by cases h), hJ.kp hK (fun k h => by cases h) (fun k h => by cases h), ?_, hL.kp hK (fun k h => by cases h) (fun k h => by cases h), hQ.kp hK (fun k h => by cases h) (fun k h => by cases h)⟩
  intro i hi
  by_cases e : i = m
  · subst e
    exact ab_set_self.trans (congrArg (fun x => some ((15, i), mC (κ.1.2.1 13 i).toNatClampNeg (nI i) (κ.1.2.1 14 i) (α 10 (x).toNatClampNeg) (α 13 (κ.1.2.1 16 i).toNatClampNeg) (κ.1.2.1 17 i) (κ.1.2.1 19 i) (κ.1.2.1 20 i) (κ.1.2.1 21 i) (κ.1.2.1 22 i) (κ.1.2.1 41 i) (κ.1.2.1 24 i) (κ.1.2.1 25 i) (κ.1.2.1 18 i))) (show v = upd (κ.1.2.1 15) i v i by simp [upd]))
  · have hu : upd (κ.1.2.1 15) m v i = κ.1.2.1 15 i := by simp [upd, e]
    have h9 := hN i hi
    
    refine (ab_set_tag (hN m hm) h9 (fun q => e (congrArg Prod.snd q))).trans ?_
    exact congrArg (fun x => some ((15, i), mC (κ.1.2.1 13 i).toNatClampNeg (nI i) (κ.1.2.1 14 i) (α 10 (x).toNatClampNeg) (α 13 (κ.1.2.1 16 i).toNatClampNeg) (κ.1.2.1 17 i) (κ.1.2.1 19 i) (κ.1.2.1 20 i) (κ.1.2.1 21 i) (κ.1.2.1 22 i) (κ.1.2.1 41 i) (κ.1.2.1 24 i) (κ.1.2.1 25 i) (κ.1.2.1 18 i))) hu.symm
theorem cw_pM2 {l : Launch} {g : ab_G} {X : State → Array Value → Prop} {Z : List Frame → Array Value → State → Room → State → Prop} {y : ab_Y} {F Lw kc ks : Nat} {pc : Nat} {L : List (Option Value)} {st : List Value} {M Mb : ab_M} {α : Nat → Nat → Nat} {nf nj nm : Nat} {κ : cS} {i m f : Nat} {ty : String} (hd : decode y.2.1 pc = .ok (.putfield i, 3)) (hf : ab_fl y.1.cls i (kci (κ.1.2.1 13 m).toNatClampNeg) 2 (.object ty) false) (hC : CC g M α nf nj nm κ) (hm : m < nm) (hK : KH Mb M) (hf9 : f < 1000) (kk : ∀ M', CC g M' α nf nj nm (cp κ 15 m (nI f)) → KH Mb M' → AW l g X Z y F Lw kc ks (pc + 3) L st M') : AW l g X Z y F Lw kc ks pc L (.ref (α 10 f) :: .ref (α 15 m) :: st) M := by
  refine aw_put hd hf (hC.2.2.2.2.2.2.2.1 m hm) rfl rfl (by simp) ?_
  refine kk _ ?_ (hK.put (hC.2.2.2.2.2.2.2.1 m hm) (show 15 < 20 by decide))
  have h9 := cput_M2 hC hm (nI f)
  rw [nI_cl (show f < 2 ^ 31 by omega)] at h9
  exact h9
theorem cw_gM2 {l : Launch} {g : ab_G} {X : State → Array Value → Prop} {Z : List Frame → Array Value → State → Room → State → Prop} {y : ab_Y} {F Lw kc ks : Nat} {pc : Nat} {L : List (Option Value)} {st : List Value} {M : ab_M} {α : Nat → Nat → Nat} {nf nj nm : Nat} {κ : cS} {i m f : Nat} (hd : decode y.2.1 pc = .ok (.getfield i, 3)) (hf : ab_fg y.1.cls i (kci (κ.1.2.1 13 m).toNatClampNeg) 2) (hC : CC g M α nf nj nm κ) (hm : m < nm) (e : κ.1.2.1 15 m = nI f) (hf9 : f < 1000) (kk : AW l g X Z y F Lw kc ks (pc + 3) L (.ref (α 10 f) :: st) M) : AW l g X Z y F Lw kc ks pc L (.ref (α 15 m) :: st) M := by
  refine aw_get hd hf (hC.2.2.2.2.2.2.2.1 m hm) rfl ?_
  rw [e, nI_cl (show f < 2 ^ 31 by omega)]
  exact kk
set_option maxHeartbeats 1000000 in
theorem cput_M3 {g : ab_G} {M : ab_M} {α : Nat → Nat → Nat} {nf nj nm : Nat} {κ : cS} {m : Nat} (hC : CC g M α nf nj nm κ) (hm : m < nm) (v : Int32) : CC g (ab_set M (α 15 m) (15, m) (mC (κ.1.2.1 13 m).toNatClampNeg (nI m) (κ.1.2.1 14 m) (α 10 (κ.1.2.1 15 m).toNatClampNeg) (α 13 (v).toNatClampNeg) (κ.1.2.1 17 m) (κ.1.2.1 19 m) (κ.1.2.1 20 m) (κ.1.2.1 21 m) (κ.1.2.1 22 m) (κ.1.2.1 41 m) (κ.1.2.1 24 m) (κ.1.2.1 25 m) (κ.1.2.1 18 m))) α nf nj nm (cp κ 16 m v) := by
  obtain ⟨hW, hA, hP, hG, hU, hF, hJ, hN, hL, hQ⟩ := hC
  have hK : KT (fun t => t = (15, m)) M (ab_set M (α 15 m) (15, m) (mC (κ.1.2.1 13 m).toNatClampNeg (nI m) (κ.1.2.1 14 m) (α 10 (κ.1.2.1 15 m).toNatClampNeg) (α 13 (v).toNatClampNeg) (κ.1.2.1 17 m) (κ.1.2.1 19 m) (κ.1.2.1 20 m) (κ.1.2.1 21 m) (κ.1.2.1 22 m) (κ.1.2.1 41 m) (κ.1.2.1 24 m) (κ.1.2.1 25 m) (κ.1.2.1 18 m))) := KT.put KT.rf (hN m hm) rfl
  refine ⟨hW.kp hK (fun k h => by cases h), hA.kp hK (fun k h => by cases h) (fun k h => by cases h), hP.kp hK (fun k h => by cases h) (fun k h => by cases h), hG.kp hK (fun k h => by cases h) (fun k h => by cases h), hU.kp hK (fun k h => by cases h), hF.kp hK (fun k h => by cases h), hJ.kp hK (fun k h => by cases h) (fun k h => by cases h), ?_, hL.kp hK (fun k h => by cases h) (fun k h => by cases h), hQ.kp hK (fun k h => by cases h) (fun k h => by cases h)⟩
  intro i hi
  by_cases e : i = m
  · subst e
    exact ab_set_self.trans (congrArg (fun x => some ((15, i), mC (κ.1.2.1 13 i).toNatClampNeg (nI i) (κ.1.2.1 14 i) (α 10 (κ.1.2.1 15 i).toNatClampNeg) (α 13 (x).toNatClampNeg) (κ.1.2.1 17 i) (κ.1.2.1 19 i) (κ.1.2.1 20 i) (κ.1.2.1 21 i) (κ.1.2.1 22 i) (κ.1.2.1 41 i) (κ.1.2.1 24 i) (κ.1.2.1 25 i) (κ.1.2.1 18 i))) (show v = upd (κ.1.2.1 16) i v i by simp [upd]))
  · have hu : upd (κ.1.2.1 16) m v i = κ.1.2.1 16 i := by simp [upd, e]
    have h9 := hN i hi
    
    refine (ab_set_tag (hN m hm) h9 (fun q => e (congrArg Prod.snd q))).trans ?_
    exact congrArg (fun x => some ((15, i), mC (κ.1.2.1 13 i).toNatClampNeg (nI i) (κ.1.2.1 14 i) (α 10 (κ.1.2.1 15 i).toNatClampNeg) (α 13 (x).toNatClampNeg) (κ.1.2.1 17 i) (κ.1.2.1 19 i) (κ.1.2.1 20 i) (κ.1.2.1 21 i) (κ.1.2.1 22 i) (κ.1.2.1 41 i) (κ.1.2.1 24 i) (κ.1.2.1 25 i) (κ.1.2.1 18 i))) hu.symm
theorem cw_pM3 {l : Launch} {g : ab_G} {X : State → Array Value → Prop} {Z : List Frame → Array Value → State → Room → State → Prop} {y : ab_Y} {F Lw kc ks : Nat} {pc : Nat} {L : List (Option Value)} {st : List Value} {M Mb : ab_M} {α : Nat → Nat → Nat} {nf nj nm : Nat} {κ : cS} {i m f : Nat} {ty : String} (hd : decode y.2.1 pc = .ok (.putfield i, 3)) (hf : ab_fl y.1.cls i (kci (κ.1.2.1 13 m).toNatClampNeg) 3 (.object ty) false) (hC : CC g M α nf nj nm κ) (hm : m < nm) (hK : KH Mb M) (hf9 : f < 1000) (kk : ∀ M', CC g M' α nf nj nm (cp κ 16 m (nI f)) → KH Mb M' → AW l g X Z y F Lw kc ks (pc + 3) L st M') : AW l g X Z y F Lw kc ks pc L (.ref (α 13 f) :: .ref (α 15 m) :: st) M := by
  refine aw_put hd hf (hC.2.2.2.2.2.2.2.1 m hm) rfl rfl (by simp) ?_
  refine kk _ ?_ (hK.put (hC.2.2.2.2.2.2.2.1 m hm) (show 15 < 20 by decide))
  have h9 := cput_M3 hC hm (nI f)
  rw [nI_cl (show f < 2 ^ 31 by omega)] at h9
  exact h9
theorem cw_gM3 {l : Launch} {g : ab_G} {X : State → Array Value → Prop} {Z : List Frame → Array Value → State → Room → State → Prop} {y : ab_Y} {F Lw kc ks : Nat} {pc : Nat} {L : List (Option Value)} {st : List Value} {M : ab_M} {α : Nat → Nat → Nat} {nf nj nm : Nat} {κ : cS} {i m f : Nat} (hd : decode y.2.1 pc = .ok (.getfield i, 3)) (hf : ab_fg y.1.cls i (kci (κ.1.2.1 13 m).toNatClampNeg) 3) (hC : CC g M α nf nj nm κ) (hm : m < nm) (e : κ.1.2.1 16 m = nI f) (hf9 : f < 1000) (kk : AW l g X Z y F Lw kc ks (pc + 3) L (.ref (α 13 f) :: st) M) : AW l g X Z y F Lw kc ks pc L (.ref (α 15 m) :: st) M := by
  refine aw_get hd hf (hC.2.2.2.2.2.2.2.1 m hm) rfl ?_
  rw [e, nI_cl (show f < 2 ^ 31 by omega)]
  exact kk
set_option maxHeartbeats 1000000 in
theorem cput_M4 {g : ab_G} {M : ab_M} {α : Nat → Nat → Nat} {nf nj nm : Nat} {κ : cS} {m : Nat} (hC : CC g M α nf nj nm κ) (hm : m < nm) (v : Int32) : CC g (ab_set M (α 15 m) (15, m) (mC (κ.1.2.1 13 m).toNatClampNeg (nI m) (κ.1.2.1 14 m) (α 10 (κ.1.2.1 15 m).toNatClampNeg) (α 13 (κ.1.2.1 16 m).toNatClampNeg) (v) (κ.1.2.1 19 m) (κ.1.2.1 20 m) (κ.1.2.1 21 m) (κ.1.2.1 22 m) (κ.1.2.1 41 m) (κ.1.2.1 24 m) (κ.1.2.1 25 m) (κ.1.2.1 18 m))) α nf nj nm (cp κ 17 m v) := by
  obtain ⟨hW, hA, hP, hG, hU, hF, hJ, hN, hL, hQ⟩ := hC
  have hK : KT (fun t => t = (15, m)) M (ab_set M (α 15 m) (15, m) (mC (κ.1.2.1 13 m).toNatClampNeg (nI m) (κ.1.2.1 14 m) (α 10 (κ.1.2.1 15 m).toNatClampNeg) (α 13 (κ.1.2.1 16 m).toNatClampNeg) (v) (κ.1.2.1 19 m) (κ.1.2.1 20 m) (κ.1.2.1 21 m) (κ.1.2.1 22 m) (κ.1.2.1 41 m) (κ.1.2.1 24 m) (κ.1.2.1 25 m) (κ.1.2.1 18 m))) := KT.put KT.rf (hN m hm) rfl
  refine ⟨hW.kp hK (fun k h => by cases h), hA.kp hK (fun k h => by cases h) (fun k h => by cases h), hP.kp hK (fun k h => by cases h) (fun k h => by cases h), hG.kp hK (fun k h => by cases h) (fun k h => by cases h), hU.kp hK (fun k h => by cases h), hF.kp hK (fun k h => by cases h), hJ.kp hK (fun k h => by cases h) (fun k h => by cases h), ?_, hL.kp hK (fun k h => by cases h) (fun k h => by cases h), hQ.kp hK (fun k h => by cases h) (fun k h => by cases h)⟩
  intro i hi
  by_cases e : i = m
  · subst e
    exact ab_set_self.trans (congrArg (fun x => some ((15, i), mC (κ.1.2.1 13 i).toNatClampNeg (nI i) (κ.1.2.1 14 i) (α 10 (κ.1.2.1 15 i).toNatClampNeg) (α 13 (κ.1.2.1 16 i).toNatClampNeg) (x) (κ.1.2.1 19 i) (κ.1.2.1 20 i) (κ.1.2.1 21 i) (κ.1.2.1 22 i) (κ.1.2.1 41 i) (κ.1.2.1 24 i) (κ.1.2.1 25 i) (κ.1.2.1 18 i))) (show v = upd (κ.1.2.1 17) i v i by simp [upd]))
  · have hu : upd (κ.1.2.1 17) m v i = κ.1.2.1 17 i := by simp [upd, e]
    have h9 := hN i hi
    
    refine (ab_set_tag (hN m hm) h9 (fun q => e (congrArg Prod.snd q))).trans ?_
    exact congrArg (fun x => some ((15, i), mC (κ.1.2.1 13 i).toNatClampNeg (nI i) (κ.1.2.1 14 i) (α 10 (κ.1.2.1 15 i).toNatClampNeg) (α 13 (κ.1.2.1 16 i).toNatClampNeg) (x) (κ.1.2.1 19 i) (κ.1.2.1 20 i) (κ.1.2.1 21 i) (κ.1.2.1 22 i) (κ.1.2.1 41 i) (κ.1.2.1 24 i) (κ.1.2.1 25 i) (κ.1.2.1 18 i))) hu.symm
theorem cw_pM4 {l : Launch} {g : ab_G} {X : State → Array Value → Prop} {Z : List Frame → Array Value → State → Room → State → Prop} {y : ab_Y} {F Lw kc ks : Nat} {pc : Nat} {L : List (Option Value)} {st : List Value} {M Mb : ab_M} {α : Nat → Nat → Nat} {nf nj nm : Nat} {κ : cS} {i m : Nat} {v : Int32} (hd : decode y.2.1 pc = .ok (.putfield i, 3)) (hf : ab_fl y.1.cls i (kci (κ.1.2.1 13 m).toNatClampNeg) 4 .int false) (hC : CC g M α nf nj nm κ) (hm : m < nm) (hK : KH Mb M) (kk : ∀ M', CC g M' α nf nj nm (cp κ 17 m v) → KH Mb M' → AW l g X Z y F Lw kc ks (pc + 3) L st M') : AW l g X Z y F Lw kc ks pc L (.int v :: .ref (α 15 m) :: st) M := by
  refine aw_put hd hf (hC.2.2.2.2.2.2.2.1 m hm) rfl rfl (by simp) ?_
  refine kk _ ?_ (hK.put (hC.2.2.2.2.2.2.2.1 m hm) (show 15 < 20 by decide))
  exact cput_M4 hC hm v
set_option maxHeartbeats 1000000 in
theorem cput_M5 {g : ab_G} {M : ab_M} {α : Nat → Nat → Nat} {nf nj nm : Nat} {κ : cS} {m : Nat} (hC : CC g M α nf nj nm κ) (hm : m < nm) (v : Int32) : CC g (ab_set M (α 15 m) (15, m) (mC (κ.1.2.1 13 m).toNatClampNeg (nI m) (κ.1.2.1 14 m) (α 10 (κ.1.2.1 15 m).toNatClampNeg) (α 13 (κ.1.2.1 16 m).toNatClampNeg) (κ.1.2.1 17 m) (v) (κ.1.2.1 20 m) (κ.1.2.1 21 m) (κ.1.2.1 22 m) (κ.1.2.1 41 m) (κ.1.2.1 24 m) (κ.1.2.1 25 m) (κ.1.2.1 18 m))) α nf nj nm (cp κ 19 m v) := by
  obtain ⟨hW, hA, hP, hG, hU, hF, hJ, hN, hL, hQ⟩ := hC
  have hK : KT (fun t => t = (15, m)) M (ab_set M (α 15 m) (15, m) (mC (κ.1.2.1 13 m).toNatClampNeg (nI m) (κ.1.2.1 14 m) (α 10 (κ.1.2.1 15 m).toNatClampNeg) (α 13 (κ.1.2.1 16 m).toNatClampNeg) (κ.1.2.1 17 m) (v) (κ.1.2.1 20 m) (κ.1.2.1 21 m) (κ.1.2.1 22 m) (κ.1.2.1 41 m) (κ.1.2.1 24 m) (κ.1.2.1 25 m) (κ.1.2.1 18 m))) := KT.put KT.rf (hN m hm) rfl
  refine ⟨hW.kp hK (fun k h => by cases h), hA.kp hK (fun k h => by cases h) (fun k h => by cases h), hP.kp hK (fun k h => by cases h) (fun k h => by cases h), hG.kp hK (fun k h => by cases h) (fun k h => by cases h), hU.kp hK (fun k h => by cases h), hF.kp hK (fun k h => by cases h), hJ.kp hK (fun k h => by cases h) (fun k h => by cases h), ?_, hL.kp hK (fun k h => by cases h) (fun k h => by cases h), hQ.kp hK (fun k h => by cases h) (fun k h => by cases h)⟩
  intro i hi
  by_cases e : i = m
  · subst e
    exact ab_set_self.trans (congrArg (fun x => some ((15, i), mC (κ.1.2.1 13 i).toNatClampNeg (nI i) (κ.1.2.1 14 i) (α 10 (κ.1.2.1 15 i).toNatClampNeg) (α 13 (κ.1.2.1 16 i).toNatClampNeg) (κ.1.2.1 17 i) (x) (κ.1.2.1 20 i) (κ.1.2.1 21 i) (κ.1.2.1 22 i) (κ.1.2.1 41 i) (κ.1.2.1 24 i) (κ.1.2.1 25 i) (κ.1.2.1 18 i))) (show v = upd (κ.1.2.1 19) i v i by simp [upd]))
  · have hu : upd (κ.1.2.1 19) m v i = κ.1.2.1 19 i := by simp [upd, e]
    have h9 := hN i hi
    
    refine (ab_set_tag (hN m hm) h9 (fun q => e (congrArg Prod.snd q))).trans ?_
    exact congrArg (fun x => some ((15, i), mC (κ.1.2.1 13 i).toNatClampNeg (nI i) (κ.1.2.1 14 i) (α 10 (κ.1.2.1 15 i).toNatClampNeg) (α 13 (κ.1.2.1 16 i).toNatClampNeg) (κ.1.2.1 17 i) (x) (κ.1.2.1 20 i) (κ.1.2.1 21 i) (κ.1.2.1 22 i) (κ.1.2.1 41 i) (κ.1.2.1 24 i) (κ.1.2.1 25 i) (κ.1.2.1 18 i))) hu.symm
theorem cw_pM5 {l : Launch} {g : ab_G} {X : State → Array Value → Prop} {Z : List Frame → Array Value → State → Room → State → Prop} {y : ab_Y} {F Lw kc ks : Nat} {pc : Nat} {L : List (Option Value)} {st : List Value} {M Mb : ab_M} {α : Nat → Nat → Nat} {nf nj nm : Nat} {κ : cS} {i m : Nat} {v : Int32} (hd : decode y.2.1 pc = .ok (.putfield i, 3)) (hf : ab_fl y.1.cls i (kci (κ.1.2.1 13 m).toNatClampNeg) 5 .int false) (hC : CC g M α nf nj nm κ) (hm : m < nm) (hK : KH Mb M) (kk : ∀ M', CC g M' α nf nj nm (cp κ 19 m v) → KH Mb M' → AW l g X Z y F Lw kc ks (pc + 3) L st M') : AW l g X Z y F Lw kc ks pc L (.int v :: .ref (α 15 m) :: st) M := by
  refine aw_put hd hf (hC.2.2.2.2.2.2.2.1 m hm) rfl rfl (by simp) ?_
  refine kk _ ?_ (hK.put (hC.2.2.2.2.2.2.2.1 m hm) (show 15 < 20 by decide))
  exact cput_M5 hC hm v
set_option maxHeartbeats 1000000 in
theorem cput_M6 {g : ab_G} {M : ab_M} {α : Nat → Nat → Nat} {nf nj nm : Nat} {κ : cS} {m : Nat} (hC : CC g M α nf nj nm κ) (hm : m < nm) (v : Int32) : CC g (ab_set M (α 15 m) (15, m) (mC (κ.1.2.1 13 m).toNatClampNeg (nI m) (κ.1.2.1 14 m) (α 10 (κ.1.2.1 15 m).toNatClampNeg) (α 13 (κ.1.2.1 16 m).toNatClampNeg) (κ.1.2.1 17 m) (κ.1.2.1 19 m) (v) (κ.1.2.1 21 m) (κ.1.2.1 22 m) (κ.1.2.1 41 m) (κ.1.2.1 24 m) (κ.1.2.1 25 m) (κ.1.2.1 18 m))) α nf nj nm (cp κ 20 m v) := by
  obtain ⟨hW, hA, hP, hG, hU, hF, hJ, hN, hL, hQ⟩ := hC
  have hK : KT (fun t => t = (15, m)) M (ab_set M (α 15 m) (15, m) (mC (κ.1.2.1 13 m).toNatClampNeg (nI m) (κ.1.2.1 14 m) (α 10 (κ.1.2.1 15 m).toNatClampNeg) (α 13 (κ.1.2.1 16 m).toNatClampNeg) (κ.1.2.1 17 m) (κ.1.2.1 19 m) (v) (κ.1.2.1 21 m) (κ.1.2.1 22 m) (κ.1.2.1 41 m) (κ.1.2.1 24 m) (κ.1.2.1 25 m) (κ.1.2.1 18 m))) := KT.put KT.rf (hN m hm) rfl
  refine ⟨hW.kp hK (fun k h => by cases h), hA.kp hK (fun k h => by cases h) (fun k h => by cases h), hP.kp hK (fun k h => by cases h) (fun k h => by cases h), hG.kp hK (fun k h => by cases h) (fun k h => by cases h), hU.kp hK (fun k h => by cases h), hF.kp hK (fun k h => by cases h), hJ.kp hK (fun k h => by cases h) (fun k h => by cases h), ?_, hL.kp hK (fun k h => by cases h) (fun k h => by cases h), hQ.kp hK (fun k h => by cases h) (fun k h => by cases h)⟩
  intro i hi
  by_cases e : i = m
  · subst e
    exact ab_set_self.trans (congrArg (fun x => some ((15, i), mC (κ.1.2.1 13 i).toNatClampNeg (nI i) (κ.1.2.1 14 i) (α 10 (κ.1.2.1 15 i).toNatClampNeg) (α 13 (κ.1.2.1 16 i).toNatClampNeg) (κ.1.2.1 17 i) (κ.1.2.1 19 i) (x) (κ.1.2.1 21 i) (κ.1.2.1 22 i) (κ.1.2.1 41 i) (κ.1.2.1 24 i) (κ.1.2.1 25 i) (κ.1.2.1 18 i))) (show v = upd (κ.1.2.1 20) i v i by simp [upd]))
  · have hu : upd (κ.1.2.1 20) m v i = κ.1.2.1 20 i := by simp [upd, e]
    have h9 := hN i hi
    
    refine (ab_set_tag (hN m hm) h9 (fun q => e (congrArg Prod.snd q))).trans ?_
    exact congrArg (fun x => some ((15, i), mC (κ.1.2.1 13 i).toNatClampNeg (nI i) (κ.1.2.1 14 i) (α 10 (κ.1.2.1 15 i).toNatClampNeg) (α 13 (κ.1.2.1 16 i).toNatClampNeg) (κ.1.2.1 17 i) (κ.1.2.1 19 i) (x) (κ.1.2.1 21 i) (κ.1.2.1 22 i) (κ.1.2.1 41 i) (κ.1.2.1 24 i) (κ.1.2.1 25 i) (κ.1.2.1 18 i))) hu.symm
theorem cw_pM6 {l : Launch} {g : ab_G} {X : State → Array Value → Prop} {Z : List Frame → Array Value → State → Room → State → Prop} {y : ab_Y} {F Lw kc ks : Nat} {pc : Nat} {L : List (Option Value)} {st : List Value} {M Mb : ab_M} {α : Nat → Nat → Nat} {nf nj nm : Nat} {κ : cS} {i m : Nat} {v : Int32} (hd : decode y.2.1 pc = .ok (.putfield i, 3)) (hf : ab_fl y.1.cls i (kci (κ.1.2.1 13 m).toNatClampNeg) 6 .int false) (hC : CC g M α nf nj nm κ) (hm : m < nm) (hK : KH Mb M) (kk : ∀ M', CC g M' α nf nj nm (cp κ 20 m v) → KH Mb M' → AW l g X Z y F Lw kc ks (pc + 3) L st M') : AW l g X Z y F Lw kc ks pc L (.int v :: .ref (α 15 m) :: st) M := by
  refine aw_put hd hf (hC.2.2.2.2.2.2.2.1 m hm) rfl rfl (by simp) ?_
  refine kk _ ?_ (hK.put (hC.2.2.2.2.2.2.2.1 m hm) (show 15 < 20 by decide))
  exact cput_M6 hC hm v
set_option maxHeartbeats 1000000 in
theorem cput_M7 {g : ab_G} {M : ab_M} {α : Nat → Nat → Nat} {nf nj nm : Nat} {κ : cS} {m : Nat} (hC : CC g M α nf nj nm κ) (hm : m < nm) (v : Int32) : CC g (ab_set M (α 15 m) (15, m) (mC (κ.1.2.1 13 m).toNatClampNeg (nI m) (κ.1.2.1 14 m) (α 10 (κ.1.2.1 15 m).toNatClampNeg) (α 13 (κ.1.2.1 16 m).toNatClampNeg) (κ.1.2.1 17 m) (κ.1.2.1 19 m) (κ.1.2.1 20 m) (v) (κ.1.2.1 22 m) (κ.1.2.1 41 m) (κ.1.2.1 24 m) (κ.1.2.1 25 m) (κ.1.2.1 18 m))) α nf nj nm (cp κ 21 m v) := by
  obtain ⟨hW, hA, hP, hG, hU, hF, hJ, hN, hL, hQ⟩ := hC
  have hK : KT (fun t => t = (15, m)) M (ab_set M (α 15 m) (15, m) (mC (κ.1.2.1 13 m).toNatClampNeg (nI m) (κ.1.2.1 14 m) (α 10 (κ.1.2.1 15 m).toNatClampNeg) (α 13 (κ.1.2.1 16 m).toNatClampNeg) (κ.1.2.1 17 m) (κ.1.2.1 19 m) (κ.1.2.1 20 m) (v) (κ.1.2.1 22 m) (κ.1.2.1 41 m) (κ.1.2.1 24 m) (κ.1.2.1 25 m) (κ.1.2.1 18 m))) := KT.put KT.rf (hN m hm) rfl
  refine ⟨hW.kp hK (fun k h => by cases h), hA.kp hK (fun k h => by cases h) (fun k h => by cases h), hP.kp hK (fun k h => by cases h) (fun k h => by cases h), hG.kp hK (fun k h => by cases h) (fun k h => by cases h), hU.kp hK (fun k h => by cases h), hF.kp hK (fun k h => by cases h), hJ.kp hK (fun k h => by cases h) (fun k h => by cases h), ?_, hL.kp hK (fun k h => by cases h) (fun k h => by cases h), hQ.kp hK (fun k h => by cases h) (fun k h => by cases h)⟩
  intro i hi
  by_cases e : i = m
  · subst e
    exact ab_set_self.trans (congrArg (fun x => some ((15, i), mC (κ.1.2.1 13 i).toNatClampNeg (nI i) (κ.1.2.1 14 i) (α 10 (κ.1.2.1 15 i).toNatClampNeg) (α 13 (κ.1.2.1 16 i).toNatClampNeg) (κ.1.2.1 17 i) (κ.1.2.1 19 i) (κ.1.2.1 20 i) (x) (κ.1.2.1 22 i) (κ.1.2.1 41 i) (κ.1.2.1 24 i) (κ.1.2.1 25 i) (κ.1.2.1 18 i))) (show v = upd (κ.1.2.1 21) i v i by simp [upd]))
  · have hu : upd (κ.1.2.1 21) m v i = κ.1.2.1 21 i := by simp [upd, e]
    have h9 := hN i hi
    
    refine (ab_set_tag (hN m hm) h9 (fun q => e (congrArg Prod.snd q))).trans ?_
    exact congrArg (fun x => some ((15, i), mC (κ.1.2.1 13 i).toNatClampNeg (nI i) (κ.1.2.1 14 i) (α 10 (κ.1.2.1 15 i).toNatClampNeg) (α 13 (κ.1.2.1 16 i).toNatClampNeg) (κ.1.2.1 17 i) (κ.1.2.1 19 i) (κ.1.2.1 20 i) (x) (κ.1.2.1 22 i) (κ.1.2.1 41 i) (κ.1.2.1 24 i) (κ.1.2.1 25 i) (κ.1.2.1 18 i))) hu.symm
theorem cw_pM7 {l : Launch} {g : ab_G} {X : State → Array Value → Prop} {Z : List Frame → Array Value → State → Room → State → Prop} {y : ab_Y} {F Lw kc ks : Nat} {pc : Nat} {L : List (Option Value)} {st : List Value} {M Mb : ab_M} {α : Nat → Nat → Nat} {nf nj nm : Nat} {κ : cS} {i m : Nat} {v : Int32} (hd : decode y.2.1 pc = .ok (.putfield i, 3)) (hf : ab_fl y.1.cls i (kci (κ.1.2.1 13 m).toNatClampNeg) 7 .int false) (hC : CC g M α nf nj nm κ) (hm : m < nm) (hK : KH Mb M) (kk : ∀ M', CC g M' α nf nj nm (cp κ 21 m v) → KH Mb M' → AW l g X Z y F Lw kc ks (pc + 3) L st M') : AW l g X Z y F Lw kc ks pc L (.int v :: .ref (α 15 m) :: st) M := by
  refine aw_put hd hf (hC.2.2.2.2.2.2.2.1 m hm) rfl rfl (by simp) ?_
  refine kk _ ?_ (hK.put (hC.2.2.2.2.2.2.2.1 m hm) (show 15 < 20 by decide))
  exact cput_M7 hC hm v
set_option maxHeartbeats 1000000 in
theorem cput_M8 {g : ab_G} {M : ab_M} {α : Nat → Nat → Nat} {nf nj nm : Nat} {κ : cS} {m : Nat} (hC : CC g M α nf nj nm κ) (hm : m < nm) (v : Int32) : CC g (ab_set M (α 15 m) (15, m) (mC (κ.1.2.1 13 m).toNatClampNeg (nI m) (κ.1.2.1 14 m) (α 10 (κ.1.2.1 15 m).toNatClampNeg) (α 13 (κ.1.2.1 16 m).toNatClampNeg) (κ.1.2.1 17 m) (κ.1.2.1 19 m) (κ.1.2.1 20 m) (κ.1.2.1 21 m) (v) (κ.1.2.1 41 m) (κ.1.2.1 24 m) (κ.1.2.1 25 m) (κ.1.2.1 18 m))) α nf nj nm (cp κ 22 m v) := by
  obtain ⟨hW, hA, hP, hG, hU, hF, hJ, hN, hL, hQ⟩ := hC
  have hK : KT (fun t => t = (15, m)) M (ab_set M (α 15 m) (15, m) (mC (κ.1.2.1 13 m).toNatClampNeg (nI m) (κ.1.2.1 14 m) (α 10 (κ.1.2.1 15 m).toNatClampNeg) (α 13 (κ.1.2.1 16 m).toNatClampNeg) (κ.1.2.1 17 m) (κ.1.2.1 19 m) (κ.1.2.1 20 m) (κ.1.2.1 21 m) (v) (κ.1.2.1 41 m) (κ.1.2.1 24 m) (κ.1.2.1 25 m) (κ.1.2.1 18 m))) := KT.put KT.rf (hN m hm) rfl
  refine ⟨hW.kp hK (fun k h => by cases h), hA.kp hK (fun k h => by cases h) (fun k h => by cases h), hP.kp hK (fun k h => by cases h) (fun k h => by cases h), hG.kp hK (fun k h => by cases h) (fun k h => by cases h), hU.kp hK (fun k h => by cases h), hF.kp hK (fun k h => by cases h), hJ.kp hK (fun k h => by cases h) (fun k h => by cases h), ?_, hL.kp hK (fun k h => by cases h) (fun k h => by cases h), hQ.kp hK (fun k h => by cases h) (fun k h => by cases h)⟩
  intro i hi
  by_cases e : i = m
  · subst e
    exact ab_set_self.trans (congrArg (fun x => some ((15, i), mC (κ.1.2.1 13 i).toNatClampNeg (nI i) (κ.1.2.1 14 i) (α 10 (κ.1.2.1 15 i).toNatClampNeg) (α 13 (κ.1.2.1 16 i).toNatClampNeg) (κ.1.2.1 17 i) (κ.1.2.1 19 i) (κ.1.2.1 20 i) (κ.1.2.1 21 i) (x) (κ.1.2.1 41 i) (κ.1.2.1 24 i) (κ.1.2.1 25 i) (κ.1.2.1 18 i))) (show v = upd (κ.1.2.1 22) i v i by simp [upd]))
  · have hu : upd (κ.1.2.1 22) m v i = κ.1.2.1 22 i := by simp [upd, e]
    have h9 := hN i hi
    
    refine (ab_set_tag (hN m hm) h9 (fun q => e (congrArg Prod.snd q))).trans ?_
    exact congrArg (fun x => some ((15, i), mC (κ.1.2.1 13 i).toNatClampNeg (nI i) (κ.1.2.1 14 i) (α 10 (κ.1.2.1 15 i).toNatClampNeg) (α 13 (κ.1.2.1 16 i).toNatClampNeg) (κ.1.2.1 17 i) (κ.1.2.1 19 i) (κ.1.2.1 20 i) (κ.1.2.1 21 i) (x) (κ.1.2.1 41 i) (κ.1.2.1 24 i) (κ.1.2.1 25 i) (κ.1.2.1 18 i))) hu.symm
theorem cw_pM8 {l : Launch} {g : ab_G} {X : State → Array Value → Prop} {Z : List Frame → Array Value → State → Room → State → Prop} {y : ab_Y} {F Lw kc ks : Nat} {pc : Nat} {L : List (Option Value)} {st : List Value} {M Mb : ab_M} {α : Nat → Nat → Nat} {nf nj nm : Nat} {κ : cS} {i m : Nat} {v : Int32} (hd : decode y.2.1 pc = .ok (.putfield i, 3)) (hf : ab_fl y.1.cls i (kci (κ.1.2.1 13 m).toNatClampNeg) 8 .int false) (hC : CC g M α nf nj nm κ) (hm : m < nm) (hK : KH Mb M) (kk : ∀ M', CC g M' α nf nj nm (cp κ 22 m v) → KH Mb M' → AW l g X Z y F Lw kc ks (pc + 3) L st M') : AW l g X Z y F Lw kc ks pc L (.int v :: .ref (α 15 m) :: st) M := by
  refine aw_put hd hf (hC.2.2.2.2.2.2.2.1 m hm) rfl rfl (by simp) ?_
  refine kk _ ?_ (hK.put (hC.2.2.2.2.2.2.2.1 m hm) (show 15 < 20 by decide))
  exact cput_M8 hC hm v
set_option maxHeartbeats 1000000 in
theorem cput_M9 {g : ab_G} {M : ab_M} {α : Nat → Nat → Nat} {nf nj nm : Nat} {κ : cS} {m : Nat} (hC : CC g M α nf nj nm κ) (hm : m < nm) (v : Int32) : CC g (ab_set M (α 15 m) (15, m) (mC (κ.1.2.1 13 m).toNatClampNeg (nI m) (κ.1.2.1 14 m) (α 10 (κ.1.2.1 15 m).toNatClampNeg) (α 13 (κ.1.2.1 16 m).toNatClampNeg) (κ.1.2.1 17 m) (κ.1.2.1 19 m) (κ.1.2.1 20 m) (κ.1.2.1 21 m) (κ.1.2.1 22 m) (v) (κ.1.2.1 24 m) (κ.1.2.1 25 m) (κ.1.2.1 18 m))) α nf nj nm (cp κ 41 m v) := by
  obtain ⟨hW, hA, hP, hG, hU, hF, hJ, hN, hL, hQ⟩ := hC
  have hK : KT (fun t => t = (15, m)) M (ab_set M (α 15 m) (15, m) (mC (κ.1.2.1 13 m).toNatClampNeg (nI m) (κ.1.2.1 14 m) (α 10 (κ.1.2.1 15 m).toNatClampNeg) (α 13 (κ.1.2.1 16 m).toNatClampNeg) (κ.1.2.1 17 m) (κ.1.2.1 19 m) (κ.1.2.1 20 m) (κ.1.2.1 21 m) (κ.1.2.1 22 m) (v) (κ.1.2.1 24 m) (κ.1.2.1 25 m) (κ.1.2.1 18 m))) := KT.put KT.rf (hN m hm) rfl
  refine ⟨hW.kp hK (fun k h => by cases h), hA.kp hK (fun k h => by cases h) (fun k h => by cases h), hP.kp hK (fun k h => by cases h) (fun k h => by cases h), hG.kp hK (fun k h => by cases h) (fun k h => by cases h), hU.kp hK (fun k h => by cases h), hF.kp hK (fun k h => by cases h), hJ.kp hK (fun k h => by cases h) (fun k h => by cases h), ?_, hL.kp hK (fun k h => by cases h) (fun k h => by cases h), hQ.kp hK (fun k h => by cases h) (fun k h => by cases h)⟩
  intro i hi
  by_cases e : i = m
  · subst e
    exact ab_set_self.trans (congrArg (fun x => some ((15, i), mC (κ.1.2.1 13 i).toNatClampNeg (nI i) (κ.1.2.1 14 i) (α 10 (κ.1.2.1 15 i).toNatClampNeg) (α 13 (κ.1.2.1 16 i).toNatClampNeg) (κ.1.2.1 17 i) (κ.1.2.1 19 i) (κ.1.2.1 20 i) (κ.1.2.1 21 i) (κ.1.2.1 22 i) (x) (κ.1.2.1 24 i) (κ.1.2.1 25 i) (κ.1.2.1 18 i))) (show v = upd (κ.1.2.1 41) i v i by simp [upd]))
  · have hu : upd (κ.1.2.1 41) m v i = κ.1.2.1 41 i := by simp [upd, e]
    have h9 := hN i hi
    
    refine (ab_set_tag (hN m hm) h9 (fun q => e (congrArg Prod.snd q))).trans ?_
    exact congrArg (fun x => some ((15, i), mC (κ.1.2.1 13 i).toNatClampNeg (nI i) (κ.1.2.1 14 i) (α 10 (κ.1.2.1 15 i).toNatClampNeg) (α 13 (κ.1.2.1 16 i).toNatClampNeg) (κ.1.2.1 17 i) (κ.1.2.1 19 i) (κ.1.2.1 20 i) (κ.1.2.1 21 i) (κ.1.2.1 22 i) (x) (κ.1.2.1 24 i) (κ.1.2.1 25 i) (κ.1.2.1 18 i))) hu.symm
theorem cw_pM9 {l : Launch} {g : ab_G} {X : State → Array Value → Prop} {Z : List Frame → Array Value → State → Room → State → Prop} {y : ab_Y} {F Lw kc ks : Nat} {pc : Nat} {L : List (Option Value)} {st : List Value} {M Mb : ab_M} {α : Nat → Nat → Nat} {nf nj nm : Nat} {κ : cS} {i m : Nat} {v : Int32} (hd : decode y.2.1 pc = .ok (.putfield i, 3)) (hf : ab_fl y.1.cls i (kci (κ.1.2.1 13 m).toNatClampNeg) 9 .int false) (hC : CC g M α nf nj nm κ) (hm : m < nm) (hK : KH Mb M) (kk : ∀ M', CC g M' α nf nj nm (cp κ 41 m v) → KH Mb M' → AW l g X Z y F Lw kc ks (pc + 3) L st M') : AW l g X Z y F Lw kc ks pc L (.int v :: .ref (α 15 m) :: st) M := by
  refine aw_put hd hf (hC.2.2.2.2.2.2.2.1 m hm) rfl rfl (by simp) ?_
  refine kk _ ?_ (hK.put (hC.2.2.2.2.2.2.2.1 m hm) (show 15 < 20 by decide))
  exact cput_M9 hC hm v
set_option maxHeartbeats 1000000 in
theorem cput_M10 {g : ab_G} {M : ab_M} {α : Nat → Nat → Nat} {nf nj nm : Nat} {κ : cS} {m : Nat} (hC : CC g M α nf nj nm κ) (hm : m < nm) (v : Int32) : CC g (ab_set M (α 15 m) (15, m) (mC (κ.1.2.1 13 m).toNatClampNeg (nI m) (κ.1.2.1 14 m) (α 10 (κ.1.2.1 15 m).toNatClampNeg) (α 13 (κ.1.2.1 16 m).toNatClampNeg) (κ.1.2.1 17 m) (κ.1.2.1 19 m) (κ.1.2.1 20 m) (κ.1.2.1 21 m) (κ.1.2.1 22 m) (κ.1.2.1 41 m) (v) (κ.1.2.1 25 m) (κ.1.2.1 18 m))) α nf nj nm (cp κ 24 m v) := by
  obtain ⟨hW, hA, hP, hG, hU, hF, hJ, hN, hL, hQ⟩ := hC
  have hK : KT (fun t => t = (15, m)) M (ab_set M (α 15 m) (15, m) (mC (κ.1.2.1 13 m).toNatClampNeg (nI m) (κ.1.2.1 14 m) (α 10 (κ.1.2.1 15 m).toNatClampNeg) (α 13 (κ.1.2.1 16 m).toNatClampNeg) (κ.1.2.1 17 m) (κ.1.2.1 19 m) (κ.1.2.1 20 m) (κ.1.2.1 21 m) (κ.1.2.1 22 m) (κ.1.2.1 41 m) (v) (κ.1.2.1 25 m) (κ.1.2.1 18 m))) := KT.put KT.rf (hN m hm) rfl
  refine ⟨hW.kp hK (fun k h => by cases h), hA.kp hK (fun k h => by cases h) (fun k h => by cases h), hP.kp hK (fun k h => by cases h) (fun k h => by cases h), hG.kp hK (fun k h => by cases h) (fun k h => by cases h), hU.kp hK (fun k h => by cases h), hF.kp hK (fun k h => by cases h), hJ.kp hK (fun k h => by cases h) (fun k h => by cases h), ?_, hL.kp hK (fun k h => by cases h) (fun k h => by cases h), hQ.kp hK (fun k h => by cases h) (fun k h => by cases h)⟩
  intro i hi
  by_cases e : i = m
  · subst e
    exact ab_set_self.trans (congrArg (fun x => some ((15, i), mC (κ.1.2.1 13 i).toNatClampNeg (nI i) (κ.1.2.1 14 i) (α 10 (κ.1.2.1 15 i).toNatClampNeg) (α 13 (κ.1.2.1 16 i).toNatClampNeg) (κ.1.2.1 17 i) (κ.1.2.1 19 i) (κ.1.2.1 20 i) (κ.1.2.1 21 i) (κ.1.2.1 22 i) (κ.1.2.1 41 i) (x) (κ.1.2.1 25 i) (κ.1.2.1 18 i))) (show v = upd (κ.1.2.1 24) i v i by simp [upd]))
  · have hu : upd (κ.1.2.1 24) m v i = κ.1.2.1 24 i := by simp [upd, e]
    have h9 := hN i hi
    
    refine (ab_set_tag (hN m hm) h9 (fun q => e (congrArg Prod.snd q))).trans ?_
    exact congrArg (fun x => some ((15, i), mC (κ.1.2.1 13 i).toNatClampNeg (nI i) (κ.1.2.1 14 i) (α 10 (κ.1.2.1 15 i).toNatClampNeg) (α 13 (κ.1.2.1 16 i).toNatClampNeg) (κ.1.2.1 17 i) (κ.1.2.1 19 i) (κ.1.2.1 20 i) (κ.1.2.1 21 i) (κ.1.2.1 22 i) (κ.1.2.1 41 i) (x) (κ.1.2.1 25 i) (κ.1.2.1 18 i))) hu.symm
theorem cw_pM10 {l : Launch} {g : ab_G} {X : State → Array Value → Prop} {Z : List Frame → Array Value → State → Room → State → Prop} {y : ab_Y} {F Lw kc ks : Nat} {pc : Nat} {L : List (Option Value)} {st : List Value} {M Mb : ab_M} {α : Nat → Nat → Nat} {nf nj nm : Nat} {κ : cS} {i m : Nat} {v : Int32} (hd : decode y.2.1 pc = .ok (.putfield i, 3)) (hf : ab_fl y.1.cls i (kci (κ.1.2.1 13 m).toNatClampNeg) 10 .int false) (hC : CC g M α nf nj nm κ) (hm : m < nm) (hK : KH Mb M) (kk : ∀ M', CC g M' α nf nj nm (cp κ 24 m v) → KH Mb M' → AW l g X Z y F Lw kc ks (pc + 3) L st M') : AW l g X Z y F Lw kc ks pc L (.int v :: .ref (α 15 m) :: st) M := by
  refine aw_put hd hf (hC.2.2.2.2.2.2.2.1 m hm) rfl rfl (by simp) ?_
  refine kk _ ?_ (hK.put (hC.2.2.2.2.2.2.2.1 m hm) (show 15 < 20 by decide))
  exact cput_M10 hC hm v
set_option maxHeartbeats 1000000 in
theorem cput_M11 {g : ab_G} {M : ab_M} {α : Nat → Nat → Nat} {nf nj nm : Nat} {κ : cS} {m : Nat} (hC : CC g M α nf nj nm κ) (hm : m < nm) (v : Int32) : CC g (ab_set M (α 15 m) (15, m) (mC (κ.1.2.1 13 m).toNatClampNeg (nI m) (κ.1.2.1 14 m) (α 10 (κ.1.2.1 15 m).toNatClampNeg) (α 13 (κ.1.2.1 16 m).toNatClampNeg) (κ.1.2.1 17 m) (κ.1.2.1 19 m) (κ.1.2.1 20 m) (κ.1.2.1 21 m) (κ.1.2.1 22 m) (κ.1.2.1 41 m) (κ.1.2.1 24 m) (v) (κ.1.2.1 18 m))) α nf nj nm (cp κ 25 m v) := by
  obtain ⟨hW, hA, hP, hG, hU, hF, hJ, hN, hL, hQ⟩ := hC
  have hK : KT (fun t => t = (15, m)) M (ab_set M (α 15 m) (15, m) (mC (κ.1.2.1 13 m).toNatClampNeg (nI m) (κ.1.2.1 14 m) (α 10 (κ.1.2.1 15 m).toNatClampNeg) (α 13 (κ.1.2.1 16 m).toNatClampNeg) (κ.1.2.1 17 m) (κ.1.2.1 19 m) (κ.1.2.1 20 m) (κ.1.2.1 21 m) (κ.1.2.1 22 m) (κ.1.2.1 41 m) (κ.1.2.1 24 m) (v) (κ.1.2.1 18 m))) := KT.put KT.rf (hN m hm) rfl
  refine ⟨hW.kp hK (fun k h => by cases h), hA.kp hK (fun k h => by cases h) (fun k h => by cases h), hP.kp hK (fun k h => by cases h) (fun k h => by cases h), hG.kp hK (fun k h => by cases h) (fun k h => by cases h), hU.kp hK (fun k h => by cases h), hF.kp hK (fun k h => by cases h), hJ.kp hK (fun k h => by cases h) (fun k h => by cases h), ?_, hL.kp hK (fun k h => by cases h) (fun k h => by cases h), hQ.kp hK (fun k h => by cases h) (fun k h => by cases h)⟩
  intro i hi
  by_cases e : i = m
  · subst e
    exact ab_set_self.trans (congrArg (fun x => some ((15, i), mC (κ.1.2.1 13 i).toNatClampNeg (nI i) (κ.1.2.1 14 i) (α 10 (κ.1.2.1 15 i).toNatClampNeg) (α 13 (κ.1.2.1 16 i).toNatClampNeg) (κ.1.2.1 17 i) (κ.1.2.1 19 i) (κ.1.2.1 20 i) (κ.1.2.1 21 i) (κ.1.2.1 22 i) (κ.1.2.1 41 i) (κ.1.2.1 24 i) (x) (κ.1.2.1 18 i))) (show v = upd (κ.1.2.1 25) i v i by simp [upd]))
  · have hu : upd (κ.1.2.1 25) m v i = κ.1.2.1 25 i := by simp [upd, e]
    have h9 := hN i hi
    
    refine (ab_set_tag (hN m hm) h9 (fun q => e (congrArg Prod.snd q))).trans ?_
    exact congrArg (fun x => some ((15, i), mC (κ.1.2.1 13 i).toNatClampNeg (nI i) (κ.1.2.1 14 i) (α 10 (κ.1.2.1 15 i).toNatClampNeg) (α 13 (κ.1.2.1 16 i).toNatClampNeg) (κ.1.2.1 17 i) (κ.1.2.1 19 i) (κ.1.2.1 20 i) (κ.1.2.1 21 i) (κ.1.2.1 22 i) (κ.1.2.1 41 i) (κ.1.2.1 24 i) (x) (κ.1.2.1 18 i))) hu.symm
theorem cw_pM11 {l : Launch} {g : ab_G} {X : State → Array Value → Prop} {Z : List Frame → Array Value → State → Room → State → Prop} {y : ab_Y} {F Lw kc ks : Nat} {pc : Nat} {L : List (Option Value)} {st : List Value} {M Mb : ab_M} {α : Nat → Nat → Nat} {nf nj nm : Nat} {κ : cS} {i m : Nat} {v : Int32} (hd : decode y.2.1 pc = .ok (.putfield i, 3)) (hf : ab_fl y.1.cls i (kci (κ.1.2.1 13 m).toNatClampNeg) 11 .int false) (hC : CC g M α nf nj nm κ) (hm : m < nm) (hK : KH Mb M) (kk : ∀ M', CC g M' α nf nj nm (cp κ 25 m v) → KH Mb M' → AW l g X Z y F Lw kc ks (pc + 3) L st M') : AW l g X Z y F Lw kc ks pc L (.int v :: .ref (α 15 m) :: st) M := by
  refine aw_put hd hf (hC.2.2.2.2.2.2.2.1 m hm) rfl rfl (by simp) ?_
  refine kk _ ?_ (hK.put (hC.2.2.2.2.2.2.2.1 m hm) (show 15 < 20 by decide))
  exact cput_M11 hC hm v
set_option maxHeartbeats 1000000 in
theorem cput_F3 {g : ab_G} {M : ab_M} {α : Nat → Nat → Nat} {nf nj nm : Nat} {κ : cS} {m : Nat} (hC : CC g M α nf nj nm κ) (hm : m < nf) (v : Int32) : CC g (ab_set M (α 10 m) (10, m) ((.inr (3, [.int (nI m), .int (κ.1.2.1 1 m), .ref (α 11 m), .int (v), .int (κ.1.2.1 2 m), .int (κ.1.2.1 4 m)]) : va_E))) α nf nj nm (cp κ 3 m v) := by
  obtain ⟨hW, hA, hP, hG, hU, hF, hJ, hN, hL, hQ⟩ := hC
  have hK : KT (fun t => t = (10, m)) M (ab_set M (α 10 m) (10, m) ((.inr (3, [.int (nI m), .int (κ.1.2.1 1 m), .ref (α 11 m), .int (v), .int (κ.1.2.1 2 m), .int (κ.1.2.1 4 m)]) : va_E))) := KT.put KT.rf (hF m hm) rfl
  refine ⟨hW.kp hK (fun k h => by cases h), hA.kp hK (fun k h => by cases h) (fun k h => by cases h), hP.kp hK (fun k h => by cases h) (fun k h => by cases h), hG.kp hK (fun k h => by cases h) (fun k h => by cases h), hU.kp hK (fun k h => by cases h), ?_, hJ.kp hK (fun k h => by cases h) (fun k h => by cases h), hN.kp hK (fun k h => by cases h), hL.kp hK (fun k h => by cases h) (fun k h => by cases h), hQ.kp hK (fun k h => by cases h) (fun k h => by cases h)⟩
  intro i hi
  by_cases e : i = m
  · subst e
    exact ab_set_self.trans (congrArg (fun x => some ((10, i), (.inr (3, [.int (nI i), .int (κ.1.2.1 1 i), .ref (α 11 i), .int (x), .int (κ.1.2.1 2 i), .int (κ.1.2.1 4 i)]) : va_E))) (show v = upd (κ.1.2.1 3) i v i by simp [upd]))
  · have hu : upd (κ.1.2.1 3) m v i = κ.1.2.1 3 i := by simp [upd, e]
    have h9 := hF i hi
    
    refine (ab_set_tag (hF m hm) h9 (fun q => e (congrArg Prod.snd q))).trans ?_
    exact congrArg (fun x => some ((10, i), (.inr (3, [.int (nI i), .int (κ.1.2.1 1 i), .ref (α 11 i), .int (x), .int (κ.1.2.1 2 i), .int (κ.1.2.1 4 i)]) : va_E))) hu.symm
theorem cw_pF3 {l : Launch} {g : ab_G} {X : State → Array Value → Prop} {Z : List Frame → Array Value → State → Room → State → Prop} {y : ab_Y} {F Lw kc ks : Nat} {pc : Nat} {L : List (Option Value)} {st : List Value} {M Mb : ab_M} {α : Nat → Nat → Nat} {nf nj nm : Nat} {κ : cS} {i m : Nat} {v : Int32} (hd : decode y.2.1 pc = .ok (.putfield i, 3)) (hf : ab_fl y.1.cls i 3 3 .boolean false) (hC : CC g M α nf nj nm κ) (hm : m < nf) (hK : KH Mb M) (hz : narrow .boolean (.int v) = .int v) (hz2 : fits .boolean (.int v) = true) (kk : ∀ M', CC g M' α nf nj nm (cp κ 3 m v) → KH Mb M' → AW l g X Z y F Lw kc ks (pc + 3) L st M') : AW l g X Z y F Lw kc ks pc L (.int v :: .ref (α 10 m) :: st) M := by
  refine aw_put hd hf (hC.2.2.2.2.2.1 m hm) hz hz2 (by simp) ?_
  refine kk _ ?_ (hK.put (hC.2.2.2.2.2.1 m hm) (show 10 < 20 by decide))
  exact cput_F3 hC hm v
set_option maxHeartbeats 1000000 in
theorem cput_F4 {g : ab_G} {M : ab_M} {α : Nat → Nat → Nat} {nf nj nm : Nat} {κ : cS} {m : Nat} (hC : CC g M α nf nj nm κ) (hm : m < nf) (v : Int32) : CC g (ab_set M (α 10 m) (10, m) ((.inr (3, [.int (nI m), .int (κ.1.2.1 1 m), .ref (α 11 m), .int (κ.1.2.1 3 m), .int (v), .int (κ.1.2.1 4 m)]) : va_E))) α nf nj nm (cp κ 2 m v) := by
  obtain ⟨hW, hA, hP, hG, hU, hF, hJ, hN, hL, hQ⟩ := hC
  have hK : KT (fun t => t = (10, m)) M (ab_set M (α 10 m) (10, m) ((.inr (3, [.int (nI m), .int (κ.1.2.1 1 m), .ref (α 11 m), .int (κ.1.2.1 3 m), .int (v), .int (κ.1.2.1 4 m)]) : va_E))) := KT.put KT.rf (hF m hm) rfl
  refine ⟨hW.kp hK (fun k h => by cases h), hA.kp hK (fun k h => by cases h) (fun k h => by cases h), hP.kp hK (fun k h => by cases h) (fun k h => by cases h), hG.kp hK (fun k h => by cases h) (fun k h => by cases h), hU.kp hK (fun k h => by cases h), ?_, hJ.kp hK (fun k h => by cases h) (fun k h => by cases h), hN.kp hK (fun k h => by cases h), hL.kp hK (fun k h => by cases h) (fun k h => by cases h), hQ.kp hK (fun k h => by cases h) (fun k h => by cases h)⟩
  intro i hi
  by_cases e : i = m
  · subst e
    exact ab_set_self.trans (congrArg (fun x => some ((10, i), (.inr (3, [.int (nI i), .int (κ.1.2.1 1 i), .ref (α 11 i), .int (κ.1.2.1 3 i), .int (x), .int (κ.1.2.1 4 i)]) : va_E))) (show v = upd (κ.1.2.1 2) i v i by simp [upd]))
  · have hu : upd (κ.1.2.1 2) m v i = κ.1.2.1 2 i := by simp [upd, e]
    have h9 := hF i hi
    
    refine (ab_set_tag (hF m hm) h9 (fun q => e (congrArg Prod.snd q))).trans ?_
    exact congrArg (fun x => some ((10, i), (.inr (3, [.int (nI i), .int (κ.1.2.1 1 i), .ref (α 11 i), .int (κ.1.2.1 3 i), .int (x), .int (κ.1.2.1 4 i)]) : va_E))) hu.symm
theorem cw_pF4 {l : Launch} {g : ab_G} {X : State → Array Value → Prop} {Z : List Frame → Array Value → State → Room → State → Prop} {y : ab_Y} {F Lw kc ks : Nat} {pc : Nat} {L : List (Option Value)} {st : List Value} {M Mb : ab_M} {α : Nat → Nat → Nat} {nf nj nm : Nat} {κ : cS} {i m : Nat} {v : Int32} (hd : decode y.2.1 pc = .ok (.putfield i, 3)) (hf : ab_fl y.1.cls i 3 4 .int false) (hC : CC g M α nf nj nm κ) (hm : m < nf) (hK : KH Mb M) (kk : ∀ M', CC g M' α nf nj nm (cp κ 2 m v) → KH Mb M' → AW l g X Z y F Lw kc ks (pc + 3) L st M') : AW l g X Z y F Lw kc ks pc L (.int v :: .ref (α 10 m) :: st) M := by
  refine aw_put hd hf (hC.2.2.2.2.2.1 m hm) rfl rfl (by simp) ?_
  refine kk _ ?_ (hK.put (hC.2.2.2.2.2.1 m hm) (show 10 < 20 by decide))
  exact cput_F4 hC hm v
set_option maxHeartbeats 1000000 in
theorem cput_F5 {g : ab_G} {M : ab_M} {α : Nat → Nat → Nat} {nf nj nm : Nat} {κ : cS} {m : Nat} (hC : CC g M α nf nj nm κ) (hm : m < nf) (v : Int32) : CC g (ab_set M (α 10 m) (10, m) ((.inr (3, [.int (nI m), .int (κ.1.2.1 1 m), .ref (α 11 m), .int (κ.1.2.1 3 m), .int (κ.1.2.1 2 m), .int (v)]) : va_E))) α nf nj nm (cp κ 4 m v) := by
  obtain ⟨hW, hA, hP, hG, hU, hF, hJ, hN, hL, hQ⟩ := hC
  have hK : KT (fun t => t = (10, m)) M (ab_set M (α 10 m) (10, m) ((.inr (3, [.int (nI m), .int (κ.1.2.1 1 m), .ref (α 11 m), .int (κ.1.2.1 3 m), .int (κ.1.2.1 2 m), .int (v)]) : va_E))) := KT.put KT.rf (hF m hm) rfl
  refine ⟨hW.kp hK (fun k h => by cases h), hA.kp hK (fun k h => by cases h) (fun k h => by cases h), hP.kp hK (fun k h => by cases h) (fun k h => by cases h), hG.kp hK (fun k h => by cases h) (fun k h => by cases h), hU.kp hK (fun k h => by cases h), ?_, hJ.kp hK (fun k h => by cases h) (fun k h => by cases h), hN.kp hK (fun k h => by cases h), hL.kp hK (fun k h => by cases h) (fun k h => by cases h), hQ.kp hK (fun k h => by cases h) (fun k h => by cases h)⟩
  intro i hi
  by_cases e : i = m
  · subst e
    exact ab_set_self.trans (congrArg (fun x => some ((10, i), (.inr (3, [.int (nI i), .int (κ.1.2.1 1 i), .ref (α 11 i), .int (κ.1.2.1 3 i), .int (κ.1.2.1 2 i), .int (x)]) : va_E))) (show v = upd (κ.1.2.1 4) i v i by simp [upd]))
  · have hu : upd (κ.1.2.1 4) m v i = κ.1.2.1 4 i := by simp [upd, e]
    have h9 := hF i hi
    
    refine (ab_set_tag (hF m hm) h9 (fun q => e (congrArg Prod.snd q))).trans ?_
    exact congrArg (fun x => some ((10, i), (.inr (3, [.int (nI i), .int (κ.1.2.1 1 i), .ref (α 11 i), .int (κ.1.2.1 3 i), .int (κ.1.2.1 2 i), .int (x)]) : va_E))) hu.symm
theorem cw_pF5 {l : Launch} {g : ab_G} {X : State → Array Value → Prop} {Z : List Frame → Array Value → State → Room → State → Prop} {y : ab_Y} {F Lw kc ks : Nat} {pc : Nat} {L : List (Option Value)} {st : List Value} {M Mb : ab_M} {α : Nat → Nat → Nat} {nf nj nm : Nat} {κ : cS} {i m : Nat} {v : Int32} (hd : decode y.2.1 pc = .ok (.putfield i, 3)) (hf : ab_fl y.1.cls i 3 5 .int false) (hC : CC g M α nf nj nm κ) (hm : m < nf) (hK : KH Mb M) (kk : ∀ M', CC g M' α nf nj nm (cp κ 4 m v) → KH Mb M' → AW l g X Z y F Lw kc ks (pc + 3) L st M') : AW l g X Z y F Lw kc ks pc L (.int v :: .ref (α 10 m) :: st) M := by
  refine aw_put hd hf (hC.2.2.2.2.2.1 m hm) rfl rfl (by simp) ?_
  refine kk _ ?_ (hK.put (hC.2.2.2.2.2.1 m hm) (show 10 < 20 by decide))
  exact cput_F5 hC hm v
set_option maxHeartbeats 1000000 in
theorem cput_J4 {g : ab_G} {M : ab_M} {α : Nat → Nat → Nat} {nf nj nm : Nat} {κ : cS} {m : Nat} (hC : CC g M α nf nj nm κ) (hm : m < nj) (v : Int32) : CC g (ab_set M (α 13 m) (13, m) ((.inr (5, [.int (nI m), .int (κ.1.2.1 6 m), .int (κ.1.2.1 7 m), .ref (α 14 m), .int (v), .int (κ.1.2.1 10 m), .int (κ.1.2.1 11 m)]) : va_E))) α nf nj nm (cp κ 9 m v) := by
  obtain ⟨hW, hA, hP, hG, hU, hF, hJ, hN, hL, hQ⟩ := hC
  have hK : KT (fun t => t = (13, m)) M (ab_set M (α 13 m) (13, m) ((.inr (5, [.int (nI m), .int (κ.1.2.1 6 m), .int (κ.1.2.1 7 m), .ref (α 14 m), .int (v), .int (κ.1.2.1 10 m), .int (κ.1.2.1 11 m)]) : va_E))) := KT.put KT.rf ((hJ m hm).1) rfl
  refine ⟨hW.kp hK (fun k h => by cases h), hA.kp hK (fun k h => by cases h) (fun k h => by cases h), hP.kp hK (fun k h => by cases h) (fun k h => by cases h), hG.kp hK (fun k h => by cases h) (fun k h => by cases h), hU.kp hK (fun k h => by cases h), hF.kp hK (fun k h => by cases h), ?_, hN.kp hK (fun k h => by cases h), hL.kp hK (fun k h => by cases h) (fun k h => by cases h), hQ.kp hK (fun k h => by cases h) (fun k h => by cases h)⟩
  intro i hi
  by_cases e : i = m
  · subst e
    refine ⟨ab_set_self.trans (congrArg (fun x => some ((13, i), (.inr (5, [.int (nI i), .int (κ.1.2.1 6 i), .int (κ.1.2.1 7 i), .ref (α 14 i), .int (x), .int (κ.1.2.1 10 i), .int (κ.1.2.1 11 i)]) : va_E))) (show v = upd (κ.1.2.1 9) i v i by simp [upd])), hK _ _ _ (hJ i hi).2 (fun h => by cases h)⟩
  · have hu : upd (κ.1.2.1 9) m v i = κ.1.2.1 9 i := by simp [upd, e]
    have h9 := (hJ i hi).1
    refine ⟨?_, hK _ _ _ (hJ i hi).2 (fun h => by cases h)⟩
    refine (ab_set_tag ((hJ m hm).1) h9 (fun q => e (congrArg Prod.snd q))).trans ?_
    exact congrArg (fun x => some ((13, i), (.inr (5, [.int (nI i), .int (κ.1.2.1 6 i), .int (κ.1.2.1 7 i), .ref (α 14 i), .int (x), .int (κ.1.2.1 10 i), .int (κ.1.2.1 11 i)]) : va_E))) hu.symm
theorem cw_pJ4 {l : Launch} {g : ab_G} {X : State → Array Value → Prop} {Z : List Frame → Array Value → State → Room → State → Prop} {y : ab_Y} {F Lw kc ks : Nat} {pc : Nat} {L : List (Option Value)} {st : List Value} {M Mb : ab_M} {α : Nat → Nat → Nat} {nf nj nm : Nat} {κ : cS} {i m : Nat} {v : Int32} (hd : decode y.2.1 pc = .ok (.putfield i, 3)) (hf : ab_fl y.1.cls i 5 4 .int false) (hC : CC g M α nf nj nm κ) (hm : m < nj) (hK : KH Mb M) (kk : ∀ M', CC g M' α nf nj nm (cp κ 9 m v) → KH Mb M' → AW l g X Z y F Lw kc ks (pc + 3) L st M') : AW l g X Z y F Lw kc ks pc L (.int v :: .ref (α 13 m) :: st) M := by
  refine aw_put hd hf ((hC.2.2.2.2.2.2.1 m hm).1) rfl rfl (by simp) ?_
  refine kk _ ?_ (hK.put ((hC.2.2.2.2.2.2.1 m hm).1) (show 13 < 20 by decide))
  exact cput_J4 hC hm v
set_option maxHeartbeats 1000000 in
theorem cput_J5 {g : ab_G} {M : ab_M} {α : Nat → Nat → Nat} {nf nj nm : Nat} {κ : cS} {m : Nat} (hC : CC g M α nf nj nm κ) (hm : m < nj) (v : Int32) : CC g (ab_set M (α 13 m) (13, m) ((.inr (5, [.int (nI m), .int (κ.1.2.1 6 m), .int (κ.1.2.1 7 m), .ref (α 14 m), .int (κ.1.2.1 9 m), .int (v), .int (κ.1.2.1 11 m)]) : va_E))) α nf nj nm (cp κ 10 m v) := by
  obtain ⟨hW, hA, hP, hG, hU, hF, hJ, hN, hL, hQ⟩ := hC
  have hK : KT (fun t => t = (13, m)) M (ab_set M (α 13 m) (13, m) ((.inr (5, [.int (nI m), .int (κ.1.2.1 6 m), .int (κ.1.2.1 7 m), .ref (α 14 m), .int (κ.1.2.1 9 m), .int (v), .int (κ.1.2.1 11 m)]) : va_E))) := KT.put KT.rf ((hJ m hm).1) rfl
  refine ⟨hW.kp hK (fun k h => by cases h), hA.kp hK (fun k h => by cases h) (fun k h => by cases h), hP.kp hK (fun k h => by cases h) (fun k h => by cases h), hG.kp hK (fun k h => by cases h) (fun k h => by cases h), hU.kp hK (fun k h => by cases h), hF.kp hK (fun k h => by cases h), ?_, hN.kp hK (fun k h => by cases h), hL.kp hK (fun k h => by cases h) (fun k h => by cases h), hQ.kp hK (fun k h => by cases h) (fun k h => by cases h)⟩
  intro i hi
  by_cases e : i = m
  · subst e
    refine ⟨ab_set_self.trans (congrArg (fun x => some ((13, i), (.inr (5, [.int (nI i), .int (κ.1.2.1 6 i), .int (κ.1.2.1 7 i), .ref (α 14 i), .int (κ.1.2.1 9 i), .int (x), .int (κ.1.2.1 11 i)]) : va_E))) (show v = upd (κ.1.2.1 10) i v i by simp [upd])), hK _ _ _ (hJ i hi).2 (fun h => by cases h)⟩
  · have hu : upd (κ.1.2.1 10) m v i = κ.1.2.1 10 i := by simp [upd, e]
    have h9 := (hJ i hi).1
    refine ⟨?_, hK _ _ _ (hJ i hi).2 (fun h => by cases h)⟩
    refine (ab_set_tag ((hJ m hm).1) h9 (fun q => e (congrArg Prod.snd q))).trans ?_
    exact congrArg (fun x => some ((13, i), (.inr (5, [.int (nI i), .int (κ.1.2.1 6 i), .int (κ.1.2.1 7 i), .ref (α 14 i), .int (κ.1.2.1 9 i), .int (x), .int (κ.1.2.1 11 i)]) : va_E))) hu.symm
theorem cw_pJ5 {l : Launch} {g : ab_G} {X : State → Array Value → Prop} {Z : List Frame → Array Value → State → Room → State → Prop} {y : ab_Y} {F Lw kc ks : Nat} {pc : Nat} {L : List (Option Value)} {st : List Value} {M Mb : ab_M} {α : Nat → Nat → Nat} {nf nj nm : Nat} {κ : cS} {i m : Nat} {v : Int32} (hd : decode y.2.1 pc = .ok (.putfield i, 3)) (hf : ab_fl y.1.cls i 5 5 .int false) (hC : CC g M α nf nj nm κ) (hm : m < nj) (hK : KH Mb M) (kk : ∀ M', CC g M' α nf nj nm (cp κ 10 m v) → KH Mb M' → AW l g X Z y F Lw kc ks (pc + 3) L st M') : AW l g X Z y F Lw kc ks pc L (.int v :: .ref (α 13 m) :: st) M := by
  refine aw_put hd hf ((hC.2.2.2.2.2.2.1 m hm).1) rfl rfl (by simp) ?_
  refine kk _ ?_ (hK.put ((hC.2.2.2.2.2.2.1 m hm).1) (show 13 < 20 by decide))
  exact cput_J5 hC hm v
set_option maxHeartbeats 1000000 in
theorem cput_J6 {g : ab_G} {M : ab_M} {α : Nat → Nat → Nat} {nf nj nm : Nat} {κ : cS} {m : Nat} (hC : CC g M α nf nj nm κ) (hm : m < nj) (v : Int32) : CC g (ab_set M (α 13 m) (13, m) ((.inr (5, [.int (nI m), .int (κ.1.2.1 6 m), .int (κ.1.2.1 7 m), .ref (α 14 m), .int (κ.1.2.1 9 m), .int (κ.1.2.1 10 m), .int (v)]) : va_E))) α nf nj nm (cp κ 11 m v) := by
  obtain ⟨hW, hA, hP, hG, hU, hF, hJ, hN, hL, hQ⟩ := hC
  have hK : KT (fun t => t = (13, m)) M (ab_set M (α 13 m) (13, m) ((.inr (5, [.int (nI m), .int (κ.1.2.1 6 m), .int (κ.1.2.1 7 m), .ref (α 14 m), .int (κ.1.2.1 9 m), .int (κ.1.2.1 10 m), .int (v)]) : va_E))) := KT.put KT.rf ((hJ m hm).1) rfl
  refine ⟨hW.kp hK (fun k h => by cases h), hA.kp hK (fun k h => by cases h) (fun k h => by cases h), hP.kp hK (fun k h => by cases h) (fun k h => by cases h), hG.kp hK (fun k h => by cases h) (fun k h => by cases h), hU.kp hK (fun k h => by cases h), hF.kp hK (fun k h => by cases h), ?_, hN.kp hK (fun k h => by cases h), hL.kp hK (fun k h => by cases h) (fun k h => by cases h), hQ.kp hK (fun k h => by cases h) (fun k h => by cases h)⟩
  intro i hi
  by_cases e : i = m
  · subst e
    refine ⟨ab_set_self.trans (congrArg (fun x => some ((13, i), (.inr (5, [.int (nI i), .int (κ.1.2.1 6 i), .int (κ.1.2.1 7 i), .ref (α 14 i), .int (κ.1.2.1 9 i), .int (κ.1.2.1 10 i), .int (x)]) : va_E))) (show v = upd (κ.1.2.1 11) i v i by simp [upd])), hK _ _ _ (hJ i hi).2 (fun h => by cases h)⟩
  · have hu : upd (κ.1.2.1 11) m v i = κ.1.2.1 11 i := by simp [upd, e]
    have h9 := (hJ i hi).1
    refine ⟨?_, hK _ _ _ (hJ i hi).2 (fun h => by cases h)⟩
    refine (ab_set_tag ((hJ m hm).1) h9 (fun q => e (congrArg Prod.snd q))).trans ?_
    exact congrArg (fun x => some ((13, i), (.inr (5, [.int (nI i), .int (κ.1.2.1 6 i), .int (κ.1.2.1 7 i), .ref (α 14 i), .int (κ.1.2.1 9 i), .int (κ.1.2.1 10 i), .int (x)]) : va_E))) hu.symm
theorem cw_pJ6 {l : Launch} {g : ab_G} {X : State → Array Value → Prop} {Z : List Frame → Array Value → State → Room → State → Prop} {y : ab_Y} {F Lw kc ks : Nat} {pc : Nat} {L : List (Option Value)} {st : List Value} {M Mb : ab_M} {α : Nat → Nat → Nat} {nf nj nm : Nat} {κ : cS} {i m : Nat} {v : Int32} (hd : decode y.2.1 pc = .ok (.putfield i, 3)) (hf : ab_fl y.1.cls i 5 6 .int false) (hC : CC g M α nf nj nm κ) (hm : m < nj) (hK : KH Mb M) (kk : ∀ M', CC g M' α nf nj nm (cp κ 11 m v) → KH Mb M' → AW l g X Z y F Lw kc ks (pc + 3) L st M') : AW l g X Z y F Lw kc ks pc L (.int v :: .ref (α 13 m) :: st) M := by
  refine aw_put hd hf ((hC.2.2.2.2.2.2.1 m hm).1) rfl rfl (by simp) ?_
  refine kk _ ?_ (hK.put ((hC.2.2.2.2.2.2.1 m hm).1) (show 13 < 20 by decide))
  exact cput_J6 hC hm v
theorem gM {g : ab_G} {M : ab_M} {α : Nat → Nat → Nat} {nf nj nm : Nat} {κ : cS} {m : Nat} (hC : CC g M α nf nj nm κ) (hm : m < nm) : M (α 15 m) = some ((15, m), mM α κ m) := hC.2.2.2.2.2.2.2.1 m hm
theorem gF {g : ab_G} {M : ab_M} {α : Nat → Nat → Nat} {nf nj nm : Nat} {κ : cS} {m : Nat} (hC : CC g M α nf nj nm κ) (hm : m < nf) : M (α 10 m) = some ((10, m), mF α κ m) := hC.2.2.2.2.2.1 m hm
theorem gJ {g : ab_G} {M : ab_M} {α : Nat → Nat → Nat} {nf nj nm : Nat} {κ : cS} {m : Nat} (hC : CC g M α nf nj nm κ) (hm : m < nj) : M (α 13 m) = some ((13, m), mJ α κ m) := (hC.2.2.2.2.2.2.1 m hm).1
theorem gJm {g : ab_G} {M : ab_M} {α : Nat → Nat → Nat} {nf nj nm : Nat} {κ : cS} {m : Nat} (hC : CC g M α nf nj nm κ) (hm : m < nj) : M (α 14 m) = some ((14, m), ab_ai g 4 (κ.2.2 m)) := (hC.2.2.2.2.2.2.1 m hm).2
theorem cw_pW7 {l : Launch} {g : ab_G} {X : State → Array Value → Prop} {Z : List Frame → Array Value → State → Room → State → Prop} {y : ab_Y} {F Lw kc ks : Nat} {pc : Nat} {L : List (Option Value)} {st : List Value} {M Mb : ab_M} {α : Nat → Nat → Nat} {nf nj nm : Nat} {κ : cS} {i : Nat} {v : Int32} (hd : decode y.2.1 pc = .ok (.putfield i, 3)) (hf : ab_fl y.1.cls i 9 7 .int false) (hC : CC g M α nf nj nm κ) (hK : KH Mb M) (kk : ∀ M', CC g M' α nf nj nm (cs κ 28 v) → KH Mb M' → AW l g X Z y F Lw kc ks (pc + 3) L st M') : AW l g X Z y F Lw kc ks pc L (.int v :: .ref (α 0 0) :: st) M := by
  obtain ⟨hW, hA, hP, hG, hU, hF, hJ, hN, hL, hQ⟩ := id hC
  refine aw_put hd hf (hW) rfl rfl (by simp) ?_
  refine kk _ ?_ (hK.put (hW) (by decide))
  have hK9 : ∀ e, KT (fun t => t = (0, 0)) M (ab_set M (α 0 0) (0, 0) e) := fun e => KT.put KT.rf (hW) rfl
  exact ⟨ab_set_self, hA.kp (hK9 _) (fun k h => by cases h) (fun k h => by cases h), hP.kp (hK9 _) (fun k h => by cases h) (fun k h => by cases h), hG.kp (hK9 _) (fun k h => by cases h) (fun k h => by cases h), hU.kp (hK9 _) (fun k h => by cases h), hF.kp (hK9 _) (fun k h => by cases h), hJ.kp (hK9 _) (fun k h => by cases h) (fun k h => by cases h), hN.kp (hK9 _) (fun k h => by cases h), hL.kp (hK9 _) (fun k h => by cases h) (fun k h => by cases h), hQ.kp (hK9 _) (fun k h => by cases h) (fun k h => by cases h)⟩
theorem cw_pW8 {l : Launch} {g : ab_G} {X : State → Array Value → Prop} {Z : List Frame → Array Value → State → Room → State → Prop} {y : ab_Y} {F Lw kc ks : Nat} {pc : Nat} {L : List (Option Value)} {st : List Value} {M Mb : ab_M} {α : Nat → Nat → Nat} {nf nj nm : Nat} {κ : cS} {i : Nat} {v : Int32} (hd : decode y.2.1 pc = .ok (.putfield i, 3)) (hf : ab_fl y.1.cls i 9 8 .int false) (hC : CC g M α nf nj nm κ) (hK : KH Mb M) (kk : ∀ M', CC g M' α nf nj nm (cs κ 27 v) → KH Mb M' → AW l g X Z y F Lw kc ks (pc + 3) L st M') : AW l g X Z y F Lw kc ks pc L (.int v :: .ref (α 0 0) :: st) M := by
  obtain ⟨hW, hA, hP, hG, hU, hF, hJ, hN, hL, hQ⟩ := id hC
  refine aw_put hd hf (hW) rfl rfl (by simp) ?_
  refine kk _ ?_ (hK.put (hW) (by decide))
  have hK9 : ∀ e, KT (fun t => t = (0, 0)) M (ab_set M (α 0 0) (0, 0) e) := fun e => KT.put KT.rf (hW) rfl
  exact ⟨ab_set_self, hA.kp (hK9 _) (fun k h => by cases h) (fun k h => by cases h), hP.kp (hK9 _) (fun k h => by cases h) (fun k h => by cases h), hG.kp (hK9 _) (fun k h => by cases h) (fun k h => by cases h), hU.kp (hK9 _) (fun k h => by cases h), hF.kp (hK9 _) (fun k h => by cases h), hJ.kp (hK9 _) (fun k h => by cases h) (fun k h => by cases h), hN.kp (hK9 _) (fun k h => by cases h), hL.kp (hK9 _) (fun k h => by cases h) (fun k h => by cases h), hQ.kp (hK9 _) (fun k h => by cases h) (fun k h => by cases h)⟩
theorem cw_pA3 {l : Launch} {g : ab_G} {X : State → Array Value → Prop} {Z : List Frame → Array Value → State → Room → State → Prop} {y : ab_Y} {F Lw kc ks : Nat} {pc : Nat} {L : List (Option Value)} {st : List Value} {M Mb : ab_M} {α : Nat → Nat → Nat} {nf nj nm : Nat} {κ : cS} {i : Nat} {v : Int32} (hd : decode y.2.1 pc = .ok (.putfield i, 3)) (hf : ab_fl y.1.cls i 2 3 .int false) (hC : CC g M α nf nj nm κ) (hK : KH Mb M) (kk : ∀ M', CC g M' α nf nj nm (cs κ 31 v) → KH Mb M' → AW l g X Z y F Lw kc ks (pc + 3) L st M') : AW l g X Z y F Lw kc ks pc L (.int v :: .ref (α 3 0) :: st) M := by
  obtain ⟨hW, hA, hP, hG, hU, hF, hJ, hN, hL, hQ⟩ := id hC
  refine aw_put hd hf (hA.1) rfl rfl (by simp) ?_
  refine kk _ ?_ (hK.put (hA.1) (by decide))
  have hK9 : ∀ e, KT (fun t => t = (3, 0)) M (ab_set M (α 3 0) (3, 0) e) := fun e => KT.put KT.rf (hA.1) rfl
  exact ⟨hW.kp (hK9 _) (fun k h => by cases h), ⟨ab_set_self, (hK9 _) _ _ _ hA.2.1 (fun h => by cases h), (hK9 _) _ _ _ hA.2.2.1 (fun h => by cases h), (hK9 _) _ _ _ hA.2.2.2 (fun h => by cases h)⟩, hP.kp (hK9 _) (fun k h => by cases h) (fun k h => by cases h), hG.kp (hK9 _) (fun k h => by cases h) (fun k h => by cases h), hU.kp (hK9 _) (fun k h => by cases h), hF.kp (hK9 _) (fun k h => by cases h), hJ.kp (hK9 _) (fun k h => by cases h) (fun k h => by cases h), hN.kp (hK9 _) (fun k h => by cases h), hL.kp (hK9 _) (fun k h => by cases h) (fun k h => by cases h), hQ.kp (hK9 _) (fun k h => by cases h) (fun k h => by cases h)⟩
theorem cw_pA4 {l : Launch} {g : ab_G} {X : State → Array Value → Prop} {Z : List Frame → Array Value → State → Room → State → Prop} {y : ab_Y} {F Lw kc ks : Nat} {pc : Nat} {L : List (Option Value)} {st : List Value} {M Mb : ab_M} {α : Nat → Nat → Nat} {nf nj nm : Nat} {κ : cS} {i : Nat} {v : Int32} (hd : decode y.2.1 pc = .ok (.putfield i, 3)) (hf : ab_fl y.1.cls i 2 4 .int false) (hC : CC g M α nf nj nm κ) (hK : KH Mb M) (kk : ∀ M', CC g M' α nf nj nm (cs κ 32 v) → KH Mb M' → AW l g X Z y F Lw kc ks (pc + 3) L st M') : AW l g X Z y F Lw kc ks pc L (.int v :: .ref (α 3 0) :: st) M := by
  obtain ⟨hW, hA, hP, hG, hU, hF, hJ, hN, hL, hQ⟩ := id hC
  refine aw_put hd hf (hA.1) rfl rfl (by simp) ?_
  refine kk _ ?_ (hK.put (hA.1) (by decide))
  have hK9 : ∀ e, KT (fun t => t = (3, 0)) M (ab_set M (α 3 0) (3, 0) e) := fun e => KT.put KT.rf (hA.1) rfl
  exact ⟨hW.kp (hK9 _) (fun k h => by cases h), ⟨ab_set_self, (hK9 _) _ _ _ hA.2.1 (fun h => by cases h), (hK9 _) _ _ _ hA.2.2.1 (fun h => by cases h), (hK9 _) _ _ _ hA.2.2.2 (fun h => by cases h)⟩, hP.kp (hK9 _) (fun k h => by cases h) (fun k h => by cases h), hG.kp (hK9 _) (fun k h => by cases h) (fun k h => by cases h), hU.kp (hK9 _) (fun k h => by cases h), hF.kp (hK9 _) (fun k h => by cases h), hJ.kp (hK9 _) (fun k h => by cases h) (fun k h => by cases h), hN.kp (hK9 _) (fun k h => by cases h), hL.kp (hK9 _) (fun k h => by cases h) (fun k h => by cases h), hQ.kp (hK9 _) (fun k h => by cases h) (fun k h => by cases h)⟩
theorem cw_pP1 {l : Launch} {g : ab_G} {X : State → Array Value → Prop} {Z : List Frame → Array Value → State → Room → State → Prop} {y : ab_Y} {F Lw kc ks : Nat} {pc : Nat} {L : List (Option Value)} {st : List Value} {M Mb : ab_M} {α : Nat → Nat → Nat} {nf nj nm : Nat} {κ : cS} {i : Nat} {v : Int32} (hd : decode y.2.1 pc = .ok (.putfield i, 3)) (hf : ab_fl y.1.cls i 7 1 .int false) (hC : CC g M α nf nj nm κ) (hK : KH Mb M) (kk : ∀ M', CC g M' α nf nj nm (cs κ 42 v) → KH Mb M' → AW l g X Z y F Lw kc ks (pc + 3) L st M') : AW l g X Z y F Lw kc ks pc L (.int v :: .ref (α 5 0) :: st) M := by
  obtain ⟨hW, hA, hP, hG, hU, hF, hJ, hN, hL, hQ⟩ := id hC
  refine aw_put hd hf (hP.1) rfl rfl (by simp) ?_
  refine kk _ ?_ (hK.put (hP.1) (by decide))
  have hK9 : ∀ e, KT (fun t => t = (5, 0)) M (ab_set M (α 5 0) (5, 0) e) := fun e => KT.put KT.rf (hP.1) rfl
  exact ⟨hW.kp (hK9 _) (fun k h => by cases h), hA.kp (hK9 _) (fun k h => by cases h) (fun k h => by cases h), ⟨ab_set_self, (hK9 _) _ _ _ hP.2 (fun h => by cases h)⟩, hG.kp (hK9 _) (fun k h => by cases h) (fun k h => by cases h), hU.kp (hK9 _) (fun k h => by cases h), hF.kp (hK9 _) (fun k h => by cases h), hJ.kp (hK9 _) (fun k h => by cases h) (fun k h => by cases h), hN.kp (hK9 _) (fun k h => by cases h), hL.kp (hK9 _) (fun k h => by cases h) (fun k h => by cases h), hQ.kp (hK9 _) (fun k h => by cases h) (fun k h => by cases h)⟩
theorem cw_pP2 {l : Launch} {g : ab_G} {X : State → Array Value → Prop} {Z : List Frame → Array Value → State → Room → State → Prop} {y : ab_Y} {F Lw kc ks : Nat} {pc : Nat} {L : List (Option Value)} {st : List Value} {M Mb : ab_M} {α : Nat → Nat → Nat} {nf nj nm : Nat} {κ : cS} {i : Nat} {v : Int32} (hd : decode y.2.1 pc = .ok (.putfield i, 3)) (hf : ab_fl y.1.cls i 7 2 .int false) (hC : CC g M α nf nj nm κ) (hK : KH Mb M) (kk : ∀ M', CC g M' α nf nj nm (cs κ 35 v) → KH Mb M' → AW l g X Z y F Lw kc ks (pc + 3) L st M') : AW l g X Z y F Lw kc ks pc L (.int v :: .ref (α 5 0) :: st) M := by
  obtain ⟨hW, hA, hP, hG, hU, hF, hJ, hN, hL, hQ⟩ := id hC
  refine aw_put hd hf (hP.1) rfl rfl (by simp) ?_
  refine kk _ ?_ (hK.put (hP.1) (by decide))
  have hK9 : ∀ e, KT (fun t => t = (5, 0)) M (ab_set M (α 5 0) (5, 0) e) := fun e => KT.put KT.rf (hP.1) rfl
  exact ⟨hW.kp (hK9 _) (fun k h => by cases h), hA.kp (hK9 _) (fun k h => by cases h) (fun k h => by cases h), ⟨ab_set_self, (hK9 _) _ _ _ hP.2 (fun h => by cases h)⟩, hG.kp (hK9 _) (fun k h => by cases h) (fun k h => by cases h), hU.kp (hK9 _) (fun k h => by cases h), hF.kp (hK9 _) (fun k h => by cases h), hJ.kp (hK9 _) (fun k h => by cases h) (fun k h => by cases h), hN.kp (hK9 _) (fun k h => by cases h), hL.kp (hK9 _) (fun k h => by cases h) (fun k h => by cases h), hQ.kp (hK9 _) (fun k h => by cases h) (fun k h => by cases h)⟩
theorem cset_tape {g : ab_G} {M : ab_M} {α : Nat → Nat → Nat} {nf nj nm : Nat} {κ : cS} (hC : CC g M α nf nj nm κ) (f : Nat → Int32) : CC g (ab_set M (α 4 0) (4, 0) (ab_ai g 50 f)) α nf nj nm (cr κ 30 f) := by
  obtain ⟨hW, hA, hP, hG, hU, hF, hJ, hN, hL, hQ⟩ := hC
  have hK : KT (fun t => t = (4, 0)) M (ab_set M (α 4 0) (4, 0) (ab_ai g 50 f)) := KT.put KT.rf (hA.2.1) rfl
  exact ⟨hW.kp hK (fun k h => by cases h), ⟨hK _ _ _ hA.1 (fun h => by cases h), ab_set_self, hK _ _ _ hA.2.2.1 (fun h => by cases h), hK _ _ _ hA.2.2.2 (fun h => by cases h)⟩, hP.kp hK (fun k h => by cases h) (fun k h => by cases h), hG.kp hK (fun k h => by cases h) (fun k h => by cases h), hU.kp hK (fun k h => by cases h), hF.kp hK (fun k h => by cases h), hJ.kp hK (fun k h => by cases h) (fun k h => by cases h), hN.kp hK (fun k h => by cases h), hL.kp hK (fun k h => by cases h) (fun k h => by cases h), hQ.kp hK (fun k h => by cases h) (fun k h => by cases h)⟩
theorem cw_s_tape {l : Launch} {g : ab_G} {X : State → Array Value → Prop} {Z : List Frame → Array Value → State → Room → State → Prop} {y : ab_Y} {F Lw kc ks : Nat} {pc : Nat} {L : List (Option Value)} {st : List Value} {M Mb : ab_M} {α : Nat → Nat → Nat} {nf nj nm : Nat} {κ : cS} {i v : Int32} (hd : decode y.2.1 pc = .ok (.iastore, 1)) (hin : vp_in i 50) (hC : CC g M α nf nj nm κ) (hK : KH Mb M) (kk : ∀ M', CC g M' α nf nj nm (cp κ 30 i.toNatClampNeg v) → KH Mb M' → AW l g X Z y F Lw kc ks (pc + 1) L st M') : AW l g X Z y F Lw kc ks pc L (.int v :: .int i :: .ref (α 4 0) :: st) M :=
  aw_iast hd hC.2.1.2.1 hin (kk _ (cset_tape hC _) (hK.put hC.2.1.2.1 (by decide)))
theorem cset_draft {g : ab_G} {M : ab_M} {α : Nat → Nat → Nat} {nf nj nm : Nat} {κ : cS} (hC : CC g M α nf nj nm κ) (f : Nat → Int32) : CC g (ab_set M (α 4 2) (4, 2) (ab_ai g 10 f)) α nf nj nm (cr κ 34 f) := by
  obtain ⟨hW, hA, hP, hG, hU, hF, hJ, hN, hL, hQ⟩ := hC
  have hK : KT (fun t => t = (4, 2)) M (ab_set M (α 4 2) (4, 2) (ab_ai g 10 f)) := KT.put KT.rf (hA.2.2.2) rfl
  exact ⟨hW.kp hK (fun k h => by cases h), ⟨hK _ _ _ hA.1 (fun h => by cases h), hK _ _ _ hA.2.1 (fun h => by cases h), hK _ _ _ hA.2.2.1 (fun h => by cases h), ab_set_self⟩, hP.kp hK (fun k h => by cases h) (fun k h => by cases h), hG.kp hK (fun k h => by cases h) (fun k h => by cases h), hU.kp hK (fun k h => by cases h), hF.kp hK (fun k h => by cases h), hJ.kp hK (fun k h => by cases h) (fun k h => by cases h), hN.kp hK (fun k h => by cases h), hL.kp hK (fun k h => by cases h) (fun k h => by cases h), hQ.kp hK (fun k h => by cases h) (fun k h => by cases h)⟩
theorem cw_s_draft {l : Launch} {g : ab_G} {X : State → Array Value → Prop} {Z : List Frame → Array Value → State → Room → State → Prop} {y : ab_Y} {F Lw kc ks : Nat} {pc : Nat} {L : List (Option Value)} {st : List Value} {M Mb : ab_M} {α : Nat → Nat → Nat} {nf nj nm : Nat} {κ : cS} {i v : Int32} (hd : decode y.2.1 pc = .ok (.iastore, 1)) (hin : vp_in i 10) (hC : CC g M α nf nj nm κ) (hK : KH Mb M) (kk : ∀ M', CC g M' α nf nj nm (cp κ 34 i.toNatClampNeg v) → KH Mb M' → AW l g X Z y F Lw kc ks (pc + 1) L st M') : AW l g X Z y F Lw kc ks pc L (.int v :: .int i :: .ref (α 4 2) :: st) M :=
  aw_iast hd hC.2.1.2.2.2 hin (kk _ (cset_draft hC _) (hK.put hC.2.1.2.2.2 (by decide)))
theorem cset_facts {g : ab_G} {M : ab_M} {α : Nat → Nat → Nat} {nf nj nm : Nat} {κ : cS} (hC : CC g M α nf nj nm κ) (f : Nat → Int32) : CC g (ab_set M (α 6 0) (6, 0) (ab_ai g 600 f)) α nf nj nm (cr κ 36 f) := by
  obtain ⟨hW, hA, hP, hG, hU, hF, hJ, hN, hL, hQ⟩ := hC
  have hK : KT (fun t => t = (6, 0)) M (ab_set M (α 6 0) (6, 0) (ab_ai g 600 f)) := KT.put KT.rf (hP.2) rfl
  exact ⟨hW.kp hK (fun k h => by cases h), hA.kp hK (fun k h => by cases h) (fun k h => by cases h), ⟨hK _ _ _ hP.1 (fun h => by cases h), ab_set_self⟩, hG.kp hK (fun k h => by cases h) (fun k h => by cases h), hU.kp hK (fun k h => by cases h), hF.kp hK (fun k h => by cases h), hJ.kp hK (fun k h => by cases h) (fun k h => by cases h), hN.kp hK (fun k h => by cases h), hL.kp hK (fun k h => by cases h) (fun k h => by cases h), hQ.kp hK (fun k h => by cases h) (fun k h => by cases h)⟩
theorem cw_s_facts {l : Launch} {g : ab_G} {X : State → Array Value → Prop} {Z : List Frame → Array Value → State → Room → State → Prop} {y : ab_Y} {F Lw kc ks : Nat} {pc : Nat} {L : List (Option Value)} {st : List Value} {M Mb : ab_M} {α : Nat → Nat → Nat} {nf nj nm : Nat} {κ : cS} {i v : Int32} (hd : decode y.2.1 pc = .ok (.iastore, 1)) (hin : vp_in i 600) (hC : CC g M α nf nj nm κ) (hK : KH Mb M) (kk : ∀ M', CC g M' α nf nj nm (cp κ 36 i.toNatClampNeg v) → KH Mb M' → AW l g X Z y F Lw kc ks (pc + 1) L st M') : AW l g X Z y F Lw kc ks pc L (.int v :: .int i :: .ref (α 6 0) :: st) M :=
  aw_iast hd hC.2.2.1.2 hin (kk _ (cset_facts hC _) (hK.put hC.2.2.1.2 (by decide)))
theorem cset_toils {g : ab_G} {M : ab_M} {α : Nat → Nat → Nat} {nf nj nm : Nat} {κ : cS} (hC : CC g M α nf nj nm κ) (f : Nat → Int32) : CC g (ab_set M (α 8 0) (8, 0) (ab_ai g 36 f)) α nf nj nm (cr κ 38 f) := by
  obtain ⟨hW, hA, hP, hG, hU, hF, hJ, hN, hL, hQ⟩ := hC
  have hK : KT (fun t => t = (8, 0)) M (ab_set M (α 8 0) (8, 0) (ab_ai g 36 f)) := KT.put KT.rf (hG.2.1) rfl
  exact ⟨hW.kp hK (fun k h => by cases h), hA.kp hK (fun k h => by cases h) (fun k h => by cases h), hP.kp hK (fun k h => by cases h) (fun k h => by cases h), ⟨hK _ _ _ hG.1 (fun h => by cases h), ab_set_self, hK _ _ _ hG.2.2.1 (fun h => by cases h), hK _ _ _ hG.2.2.2 (fun h => by cases h)⟩, hU.kp hK (fun k h => by cases h), hF.kp hK (fun k h => by cases h), hJ.kp hK (fun k h => by cases h) (fun k h => by cases h), hN.kp hK (fun k h => by cases h), hL.kp hK (fun k h => by cases h) (fun k h => by cases h), hQ.kp hK (fun k h => by cases h) (fun k h => by cases h)⟩
theorem cw_s_toils {l : Launch} {g : ab_G} {X : State → Array Value → Prop} {Z : List Frame → Array Value → State → Room → State → Prop} {y : ab_Y} {F Lw kc ks : Nat} {pc : Nat} {L : List (Option Value)} {st : List Value} {M Mb : ab_M} {α : Nat → Nat → Nat} {nf nj nm : Nat} {κ : cS} {i v : Int32} (hd : decode y.2.1 pc = .ok (.iastore, 1)) (hin : vp_in i 36) (hC : CC g M α nf nj nm κ) (hK : KH Mb M) (kk : ∀ M', CC g M' α nf nj nm (cp κ 38 i.toNatClampNeg v) → KH Mb M' → AW l g X Z y F Lw kc ks (pc + 1) L st M') : AW l g X Z y F Lw kc ks pc L (.int v :: .int i :: .ref (α 8 0) :: st) M :=
  aw_iast hd hC.2.2.2.1.2.1 hin (kk _ (cset_toils hC _) (hK.put hC.2.2.2.1.2.1 (by decide)))
theorem cset_least {g : ab_G} {M : ab_M} {α : Nat → Nat → Nat} {nf nj nm : Nat} {κ : cS} (hC : CC g M α nf nj nm κ) (f : Nat → Int32) : CC g (ab_set M (α 8 1) (8, 1) (ab_ai g 64 f)) α nf nj nm (cr κ 39 f) := by
  obtain ⟨hW, hA, hP, hG, hU, hF, hJ, hN, hL, hQ⟩ := hC
  have hK : KT (fun t => t = (8, 1)) M (ab_set M (α 8 1) (8, 1) (ab_ai g 64 f)) := KT.put KT.rf (hG.2.2.1) rfl
  exact ⟨hW.kp hK (fun k h => by cases h), hA.kp hK (fun k h => by cases h) (fun k h => by cases h), hP.kp hK (fun k h => by cases h) (fun k h => by cases h), ⟨hK _ _ _ hG.1 (fun h => by cases h), hK _ _ _ hG.2.1 (fun h => by cases h), ab_set_self, hK _ _ _ hG.2.2.2 (fun h => by cases h)⟩, hU.kp hK (fun k h => by cases h), hF.kp hK (fun k h => by cases h), hJ.kp hK (fun k h => by cases h) (fun k h => by cases h), hN.kp hK (fun k h => by cases h), hL.kp hK (fun k h => by cases h) (fun k h => by cases h), hQ.kp hK (fun k h => by cases h) (fun k h => by cases h)⟩
theorem cw_s_least {l : Launch} {g : ab_G} {X : State → Array Value → Prop} {Z : List Frame → Array Value → State → Room → State → Prop} {y : ab_Y} {F Lw kc ks : Nat} {pc : Nat} {L : List (Option Value)} {st : List Value} {M Mb : ab_M} {α : Nat → Nat → Nat} {nf nj nm : Nat} {κ : cS} {i v : Int32} (hd : decode y.2.1 pc = .ok (.iastore, 1)) (hin : vp_in i 64) (hC : CC g M α nf nj nm κ) (hK : KH Mb M) (kk : ∀ M', CC g M' α nf nj nm (cp κ 39 i.toNatClampNeg v) → KH Mb M' → AW l g X Z y F Lw kc ks (pc + 1) L st M') : AW l g X Z y F Lw kc ks pc L (.int v :: .int i :: .ref (α 8 1) :: st) M :=
  aw_iast hd hC.2.2.2.1.2.2.1 hin (kk _ (cset_least hC _) (hK.put hC.2.2.2.1.2.2.1 (by decide)))
theorem cset_jarsOfMen {g : ab_G} {M : ab_M} {α : Nat → Nat → Nat} {nf nj nm : Nat} {κ : cS} (hC : CC g M α nf nj nm κ) (f : Nat → Int32) : CC g (ab_set M (α 8 2) (8, 2) (ab_ai g 10 f)) α nf nj nm (cr κ 40 f) := by
  obtain ⟨hW, hA, hP, hG, hU, hF, hJ, hN, hL, hQ⟩ := hC
  have hK : KT (fun t => t = (8, 2)) M (ab_set M (α 8 2) (8, 2) (ab_ai g 10 f)) := KT.put KT.rf (hG.2.2.2) rfl
  exact ⟨hW.kp hK (fun k h => by cases h), hA.kp hK (fun k h => by cases h) (fun k h => by cases h), hP.kp hK (fun k h => by cases h) (fun k h => by cases h), ⟨hK _ _ _ hG.1 (fun h => by cases h), hK _ _ _ hG.2.1 (fun h => by cases h), hK _ _ _ hG.2.2.1 (fun h => by cases h), ab_set_self⟩, hU.kp hK (fun k h => by cases h), hF.kp hK (fun k h => by cases h), hJ.kp hK (fun k h => by cases h) (fun k h => by cases h), hN.kp hK (fun k h => by cases h), hL.kp hK (fun k h => by cases h) (fun k h => by cases h), hQ.kp hK (fun k h => by cases h) (fun k h => by cases h)⟩
theorem cw_s_jarsOfMen {l : Launch} {g : ab_G} {X : State → Array Value → Prop} {Z : List Frame → Array Value → State → Room → State → Prop} {y : ab_Y} {F Lw kc ks : Nat} {pc : Nat} {L : List (Option Value)} {st : List Value} {M Mb : ab_M} {α : Nat → Nat → Nat} {nf nj nm : Nat} {κ : cS} {i v : Int32} (hd : decode y.2.1 pc = .ok (.iastore, 1)) (hin : vp_in i 10) (hC : CC g M α nf nj nm κ) (hK : KH Mb M) (kk : ∀ M', CC g M' α nf nj nm (cp κ 40 i.toNatClampNeg v) → KH Mb M' → AW l g X Z y F Lw kc ks (pc + 1) L st M') : AW l g X Z y F Lw kc ks pc L (.int v :: .int i :: .ref (α 8 2) :: st) M :=
  aw_iast hd hC.2.2.2.1.2.2.2 hin (kk _ (cset_jarsOfMen hC _) (hK.put hC.2.2.2.1.2.2.2 (by decide)))
theorem cw_s_sums {l : Launch} {g : ab_G} {X : State → Array Value → Prop} {Z : List Frame → Array Value → State → Room → State → Prop} {y : ab_Y} {F Lw kc ks : Nat} {pc : Nat} {L : List (Option Value)} {st : List Value} {M Mb : ab_M} {α : Nat → Nat → Nat} {nf nj nm : Nat} {κ : cS} {i : Int32} {v : Int64} (hd : decode y.2.1 pc = .ok (.lastore, 1)) (hin : vp_in i 7) (hC : CC g M α nf nj nm κ) (hK : KH Mb M) (kk : ∀ M', CC g M' α nf nj nm (cl κ i.toNatClampNeg v) → KH Mb M' → AW l g X Z y F Lw kc ks (pc + 1) L st M') : AW l g X Z y F Lw kc ks pc L (.long v :: .int i :: .ref (α 9 0) :: st) M := by
  obtain ⟨hW, hA, hP, hG, hU, hF, hJ, hN, hL, hQ⟩ := id hC
  refine aw_last hd hU hin (kk _ ?_ (hK.put hU (by decide)))
  have hK : KT (fun t => t = (9, 0)) M (ab_set M (α 9 0) (9, 0) (ab_al g 7 (vp_updL κ.1.2.2 i.toNatClampNeg v))) := KT.put KT.rf hU rfl
  exact ⟨hW.kp hK (fun k h => by cases h), hA.kp hK (fun k h => by cases h) (fun k h => by cases h), hP.kp hK (fun k h => by cases h) (fun k h => by cases h), hG.kp hK (fun k h => by cases h) (fun k h => by cases h), ab_set_self, hF.kp hK (fun k h => by cases h), hJ.kp hK (fun k h => by cases h) (fun k h => by cases h), hN.kp hK (fun k h => by cases h), hL.kp hK (fun k h => by cases h) (fun k h => by cases h), hQ.kp hK (fun k h => by cases h) (fun k h => by cases h)⟩
theorem cset_row {g : ab_G} {M M2 : ab_M} {α : Nat → Nat → Nat} {nf nj nm : Nat} {κ : cS} {i : Nat} {ls : List Nat} (hC : CC g M α nf nj nm κ) (hi : i < nf) (hK : KT (fun q => q = (11, i) ∨ q = (12, i)) M M2) (hl : LG g M2 (α 11 i) (11, i) (12, i) (ls.map (α 15))) : CC g M2 α nf nj nm (cw κ i ls) := by
  obtain ⟨hW, hA, hP, hG, hU, hF, hJ, hN, hL, hQ⟩ := hC
  refine ⟨hW.kp hK (fun k h => by rcases h with h | h <;> cases h), hA.kp hK (fun k h => by rcases h with h | h <;> cases h) (fun k h => by rcases h with h | h <;> cases h), hP.kp hK (fun k h => by rcases h with h | h <;> cases h) (fun k h => by rcases h with h | h <;> cases h), hG.kp hK (fun k h => by rcases h with h | h <;> cases h) (fun k h => by rcases h with h | h <;> cases h), hU.kp hK (fun k h => by rcases h with h | h <;> cases h), hF.kp hK (fun k h => by rcases h with h | h <;> cases h), hJ.kp hK (fun k h => by rcases h with h | h <;> cases h) (fun k h => by rcases h with h | h <;> cases h), hN.kp hK (fun k h => by rcases h with h | h <;> cases h), hL.kp hK (fun k h => by rcases h with h | h <;> cases h) (fun k h => by rcases h with h | h <;> cases h), ?_⟩
  intro k hk
  by_cases e : k = i
  · subst e
    simp only [cw, if_pos]
    exact ⟨Or.inl hl, fun _ => hl⟩
  · simp only [cw, if_neg e]
    exact ⟨(hQ k hk).1.keep hK (by simp [e]) (by simp [e]), fun q => ((hQ k hk).2 q).keep hK (by simp [e]) (by simp [e])⟩
theorem fM_X2_43 (k : Nat) : ab_fg RX2 43 (kci k) 4 := by
  unfold kci
  split
  · exact fg_X2_43_6
  · split
    · exact fg_X2_43_8
    · exact fg_X2_43_1
theorem pM_X2_43 (k : Nat) : ab_fl RX2 43 (kci k) 4 .int false := by
  unfold kci
  split
  · exact fl_X2_43_6
  · split
    · exact fl_X2_43_8
    · exact fl_X2_43_1
theorem fM_X5_15 (k : Nat) : ab_fg RX5 15 (kci k) 5 := by
  unfold kci
  split
  · exact fg_X5_15_6
  · split
    · exact fg_X5_15_8
    · exact fg_X5_15_1
theorem pM_X5_15 (k : Nat) : ab_fl RX5 15 (kci k) 5 .int false := by
  unfold kci
  split
  · exact fl_X5_15_6
  · split
    · exact fl_X5_15_8
    · exact fl_X5_15_1
theorem fM_X5_18 (k : Nat) : ab_fg RX5 18 (kci k) 6 := by
  unfold kci
  split
  · exact fg_X5_18_6
  · split
    · exact fg_X5_18_8
    · exact fg_X5_18_1
theorem pM_X5_18 (k : Nat) : ab_fl RX5 18 (kci k) 6 .int false := by
  unfold kci
  split
  · exact fl_X5_18_6
  · split
    · exact fl_X5_18_8
    · exact fl_X5_18_1
theorem fM_X5_21 (k : Nat) : ab_fg RX5 21 (kci k) 7 := by
  unfold kci
  split
  · exact fg_X5_21_6
  · split
    · exact fg_X5_21_8
    · exact fg_X5_21_1
theorem pM_X5_21 (k : Nat) : ab_fl RX5 21 (kci k) 7 .int false := by
  unfold kci
  split
  · exact fl_X5_21_6
  · split
    · exact fl_X5_21_8
    · exact fl_X5_21_1
theorem fM_X5_24 (k : Nat) : ab_fg RX5 24 (kci k) 8 := by
  unfold kci
  split
  · exact fg_X5_24_6
  · split
    · exact fg_X5_24_8
    · exact fg_X5_24_1
theorem pM_X5_24 (k : Nat) : ab_fl RX5 24 (kci k) 8 .int false := by
  unfold kci
  split
  · exact fl_X5_24_6
  · split
    · exact fl_X5_24_8
    · exact fl_X5_24_1
theorem fM_X5_27 (k : Nat) : ab_fg RX5 27 (kci k) 9 := by
  unfold kci
  split
  · exact fg_X5_27_6
  · split
    · exact fg_X5_27_8
    · exact fg_X5_27_1
theorem pM_X5_27 (k : Nat) : ab_fl RX5 27 (kci k) 9 .int false := by
  unfold kci
  split
  · exact fl_X5_27_6
  · split
    · exact fl_X5_27_8
    · exact fl_X5_27_1
theorem fM_X5_30 (k : Nat) : ab_fg RX5 30 (kci k) 10 := by
  unfold kci
  split
  · exact fg_X5_30_6
  · split
    · exact fg_X5_30_8
    · exact fg_X5_30_1
theorem pM_X5_30 (k : Nat) : ab_fl RX5 30 (kci k) 10 .int false := by
  unfold kci
  split
  · exact fl_X5_30_6
  · split
    · exact fl_X5_30_8
    · exact fl_X5_30_1
theorem fM_X5_33 (k : Nat) : ab_fg RX5 33 (kci k) 11 := by
  unfold kci
  split
  · exact fg_X5_33_6
  · split
    · exact fg_X5_33_8
    · exact fg_X5_33_1
theorem pM_X5_33 (k : Nat) : ab_fl RX5 33 (kci k) 11 .int false := by
  unfold kci
  split
  · exact fl_X5_33_6
  · split
    · exact fl_X5_33_8
    · exact fl_X5_33_1
theorem fM_X5_36 (k : Nat) : ab_fg RX5 36 (kci k) 0 := by
  unfold kci
  split
  · exact fg_X5_36_6
  · split
    · exact fg_X5_36_8
    · exact fg_X5_36_1
theorem fM_X5_39 (k : Nat) : ab_fg RX5 39 (kci k) 1 := by
  unfold kci
  split
  · exact fg_X5_39_6
  · split
    · exact fg_X5_39_8
    · exact fg_X5_39_1
theorem fM_X5_42 (k : Nat) : ab_fg RX5 42 (kci k) 2 := by
  unfold kci
  split
  · exact fg_X5_42_6
  · split
    · exact fg_X5_42_8
    · exact fg_X5_42_1
theorem pM_X5_42 (k : Nat) : ab_fl RX5 42 (kci k) 2 (.object "WaterMen$Fountain") false := by
  unfold kci
  split
  · exact fl_X5_42_6
  · split
    · exact fl_X5_42_8
    · exact fl_X5_42_1
theorem fM_X5_46 (k : Nat) : ab_fg RX5 46 (kci k) 3 := by
  unfold kci
  split
  · exact fg_X5_46_6
  · split
    · exact fg_X5_46_8
    · exact fg_X5_46_1
theorem pM_X5_46 (k : Nat) : ab_fl RX5 46 (kci k) 3 (.object "WaterMen$Jar") false := by
  unfold kci
  split
  · exact fl_X5_46_6
  · split
    · exact fl_X5_46_8
    · exact fl_X5_46_1
theorem fM_X5_9 (k : Nat) : ab_fg RX5 9 (kci k) 4 := by
  unfold kci
  split
  · exact fg_X5_9_6
  · split
    · exact fg_X5_9_8
    · exact fg_X5_9_1
theorem pM_X5_9 (k : Nat) : ab_fl RX5 9 (kci k) 4 .int false := by
  unfold kci
  split
  · exact fl_X5_9_6
  · split
    · exact fl_X5_9_8
    · exact fl_X5_9_1
theorem fM_X6_22 (k : Nat) : ab_fg RX6 22 (kci k) 0 := by
  unfold kci
  split
  · exact fg_X6_22_6
  · split
    · exact fg_X6_22_8
    · exact fg_X6_22_1
theorem fM_X6_27 (k : Nat) : ab_fg RX6 27 (kci k) 3 := by
  unfold kci
  split
  · exact fg_X6_27_6
  · split
    · exact fg_X6_27_8
    · exact fg_X6_27_1
theorem pM_X6_27 (k : Nat) : ab_fl RX6 27 (kci k) 3 (.object "WaterMen$Jar") false := by
  unfold kci
  split
  · exact fl_X6_27_6
  · split
    · exact fl_X6_27_8
    · exact fl_X6_27_1
theorem fM_X6_34 (k : Nat) : ab_fg RX6 34 (kci k) 10 := by
  unfold kci
  split
  · exact fg_X6_34_6
  · split
    · exact fg_X6_34_8
    · exact fg_X6_34_1
theorem pM_X6_34 (k : Nat) : ab_fl RX6 34 (kci k) 10 .int false := by
  unfold kci
  split
  · exact fl_X6_34_6
  · split
    · exact fl_X6_34_8
    · exact fl_X6_34_1
theorem fM_X6_37 (k : Nat) : ab_fg RX6 37 (kci k) 11 := by
  unfold kci
  split
  · exact fg_X6_37_6
  · split
    · exact fg_X6_37_8
    · exact fg_X6_37_1
theorem pM_X6_37 (k : Nat) : ab_fl RX6 37 (kci k) 11 .int false := by
  unfold kci
  split
  · exact fl_X6_37_6
  · split
    · exact fl_X6_37_8
    · exact fl_X6_37_1
theorem fM_X8_108 (k : Nat) : ab_fg RX8 108 (kci k) 4 := by
  unfold kci
  split
  · exact fg_X8_108_6
  · split
    · exact fg_X8_108_8
    · exact fg_X8_108_1
theorem pM_X8_108 (k : Nat) : ab_fl RX8 108 (kci k) 4 .int false := by
  unfold kci
  split
  · exact fl_X8_108_6
  · split
    · exact fl_X8_108_8
    · exact fl_X8_108_1
theorem fM_X8_116 (k : Nat) : ab_fg RX8 116 (kci k) 5 := by
  unfold kci
  split
  · exact fg_X8_116_6
  · split
    · exact fg_X8_116_8
    · exact fg_X8_116_1
theorem pM_X8_116 (k : Nat) : ab_fl RX8 116 (kci k) 5 .int false := by
  unfold kci
  split
  · exact fl_X8_116_6
  · split
    · exact fl_X8_116_8
    · exact fl_X8_116_1
theorem fM_X8_122 (k : Nat) : ab_fg RX8 122 (kci k) 2 := by
  unfold kci
  split
  · exact fg_X8_122_6
  · split
    · exact fg_X8_122_8
    · exact fg_X8_122_1
theorem pM_X8_122 (k : Nat) : ab_fl RX8 122 (kci k) 2 (.object "WaterMen$Fountain") false := by
  unfold kci
  split
  · exact fl_X8_122_6
  · split
    · exact fl_X8_122_8
    · exact fl_X8_122_1
theorem fM_X8_126 (k : Nat) : ab_fg RX8 126 (kci k) 3 := by
  unfold kci
  split
  · exact fg_X8_126_6
  · split
    · exact fg_X8_126_8
    · exact fg_X8_126_1
theorem pM_X8_126 (k : Nat) : ab_fl RX8 126 (kci k) 3 (.object "WaterMen$Jar") false := by
  unfold kci
  split
  · exact fl_X8_126_6
  · split
    · exact fl_X8_126_8
    · exact fl_X8_126_1
theorem fM_X8_152 (k : Nat) : ab_fg RX8 152 (kci k) 6 := by
  unfold kci
  split
  · exact fg_X8_152_6
  · split
    · exact fg_X8_152_8
    · exact fg_X8_152_1
theorem pM_X8_152 (k : Nat) : ab_fl RX8 152 (kci k) 6 .int false := by
  unfold kci
  split
  · exact fl_X8_152_6
  · split
    · exact fl_X8_152_8
    · exact fl_X8_152_1
theorem fM_X8_155 (k : Nat) : ab_fg RX8 155 (kci k) 7 := by
  unfold kci
  split
  · exact fg_X8_155_6
  · split
    · exact fg_X8_155_8
    · exact fg_X8_155_1
theorem pM_X8_155 (k : Nat) : ab_fl RX8 155 (kci k) 7 .int false := by
  unfold kci
  split
  · exact fl_X8_155_6
  · split
    · exact fl_X8_155_8
    · exact fl_X8_155_1
theorem fM_X8_158 (k : Nat) : ab_fg RX8 158 (kci k) 8 := by
  unfold kci
  split
  · exact fg_X8_158_6
  · split
    · exact fg_X8_158_8
    · exact fg_X8_158_1
theorem pM_X8_158 (k : Nat) : ab_fl RX8 158 (kci k) 8 .int false := by
  unfold kci
  split
  · exact fl_X8_158_6
  · split
    · exact fl_X8_158_8
    · exact fl_X8_158_1
theorem fM_X8_256 (k : Nat) : ab_fg RX8 256 (kci k) 1 := by
  unfold kci
  split
  · exact fg_X8_256_6
  · split
    · exact fg_X8_256_8
    · exact fg_X8_256_1
theorem fM_X8_262 (k : Nat) : ab_fg RX8 262 (kci k) 10 := by
  unfold kci
  split
  · exact fg_X8_262_6
  · split
    · exact fg_X8_262_8
    · exact fg_X8_262_1
theorem pM_X8_262 (k : Nat) : ab_fl RX8 262 (kci k) 10 .int false := by
  unfold kci
  split
  · exact fl_X8_262_6
  · split
    · exact fl_X8_262_8
    · exact fl_X8_262_1
theorem fM_X8_265 (k : Nat) : ab_fg RX8 265 (kci k) 11 := by
  unfold kci
  split
  · exact fg_X8_265_6
  · split
    · exact fg_X8_265_8
    · exact fg_X8_265_1
theorem pM_X8_265 (k : Nat) : ab_fl RX8 265 (kci k) 11 .int false := by
  unfold kci
  split
  · exact fl_X8_265_6
  · split
    · exact fl_X8_265_8
    · exact fl_X8_265_1
theorem fM_X8_272 (k : Nat) : ab_fg RX8 272 (kci k) 9 := by
  unfold kci
  split
  · exact fg_X8_272_6
  · split
    · exact fg_X8_272_8
    · exact fg_X8_272_1
theorem pM_X8_272 (k : Nat) : ab_fl RX8 272 (kci k) 9 .int false := by
  unfold kci
  split
  · exact fl_X8_272_6
  · split
    · exact fl_X8_272_8
    · exact fl_X8_272_1
theorem csM_X5_55 (k : Nat) : ab_cV RX5 55 (kci k) Y_X5_wayDown 1 := by
  unfold kci
  split
  · exact cs_X5_55_6
  · split
    · exact cs_X5_55_8
    · exact cs_X5_55_1
theorem csM_X5_74 (k : Nat) : ab_cV RX5 74 (kci k) Y_X5_wayUp 1 := by
  unfold kci
  split
  · exact cs_X5_74_6
  · split
    · exact cs_X5_74_8
    · exact cs_X5_74_1
theorem csM_X8_101 (k : Nat) : ab_cV RX8 101 (kci k) Y_X5_joinRow 0 := by
  unfold kci
  split
  · exact cs_X8_101_6
  · split
    · exact cs_X8_101_8
    · exact cs_X8_101_1
theorem csM_X8_119 (k : Nat) : ab_cV RX8 119 (kci k) Y_X5_leaveRow 0 := by
  unfold kci
  split
  · exact cs_X8_119_6
  · split
    · exact cs_X8_119_8
    · exact cs_X8_119_1
theorem csM_X8_165 (k : Nat) : ab_cV RX8 165 (kci k) Y_X5_wayUp 1 := by
  unfold kci
  split
  · exact cs_X8_165_6
  · split
    · exact cs_X8_165_8
    · exact cs_X8_165_1
theorem csM_X8_169 (k : Nat) : ab_cV RX8 169 (kci k) Y_X5_wayDown 1 := by
  unfold kci
  split
  · exact cs_X8_169_6
  · split
    · exact cs_X8_169_8
    · exact cs_X8_169_1
theorem csM_X8_191 (k : Nat) : ab_cV RX8 191 (kci k) Y_X5_goDown 0 := by
  unfold kci
  split
  · exact cs_X8_191_6
  · split
    · exact cs_X8_191_8
    · exact cs_X8_191_1
theorem csM_X8_204 (k : Nat) : ab_cV RX8 204 (kci k) Y_X5_toilFor 1 := by
  unfold kci
  split
  · exact cs_X8_204_6
  · split
    · exact cs_X8_204_8
    · exact cs_X8_204_1
theorem csM_X8_268 (k : Nat) : ab_cV RX8 268 (kci k) Y_X5_goUp 1 := by
  unfold kci
  split
  · exact cs_X8_268_6
  · split
    · exact cs_X8_268_8
    · exact cs_X8_268_1
