/-! ===== who is first, who is ahead ===== -/
def ahN (σ : rS) (a b : Nat) : Prop := (σ.2.1 17 b).toInt < (σ.2.1 17 a).toInt ∨ ((σ.2.1 17 a).toInt = (σ.2.1 17 b).toInt ∧ (σ.2.1 23 a).toInt < (σ.2.1 23 b).toInt)
theorem ah_iff {σ : rS} {a b : Nat} (ha : a < 1000) (hb : b < 1000) : q_ahead σ (nI a) (nI b) = true ↔ ahN σ a b := by
  unfold q_ahead rg ahN
  rw [nI_cl (by omega), nI_cl (by omega), Bool.or_eq_true, Bool.and_eq_true, decide_eq_true_eq, decide_eq_true_eq, decide_eq_true_eq, Int32.lt_iff_toInt_lt, Int32.lt_iff_toInt_lt, ← Int32.toInt_inj]
theorem pw_or {R : Nat → Nat → Prop} : ∀ (ls : List Nat), ls.Pairwise R → ∀ x ∈ ls, ∀ y ∈ ls, x ≠ y → R x y ∨ R y x
  | [], _, x, hx, _, _, _ => by simp at hx
  | a :: ls, h, x, hx, y, hy, hne => by
    rw [List.pairwise_cons] at h
    rcases List.mem_cons.mp hx with e1 | hx2
    · rcases List.mem_cons.mp hy with e2 | hy2
      · exact absurd (e1.trans e2.symm) hne
      · rw [e1]
        exact Or.inl (h.1 y hy2)
    · rcases List.mem_cons.mp hy with e2 | hy2
      · rw [e2]
        exact Or.inr (h.1 x hx2)
      · exact pw_or ls h.2 x hx2 y hy2 hne
theorem nxs {σ : rS} {κ : cS} (hE : E σ κ) : ∀ (ls : List Nat) (y : Nat), ls.Pairwise (fun a b => (σ.2.1 23 a).toInt < (σ.2.1 23 b).toInt) → (∀ x ∈ ls, (σ.2.1 23 y).toInt < (σ.2.1 23 x).toInt) → ∃ b, q_nx κ ls (some y) = some b ∧ (b = y ∨ b ∈ ls) ∧ ∀ x, (x = y ∨ x ∈ ls) → x ≠ b → ahN σ b x
  | [], y, _, _ => ⟨y, rfl, Or.inl rfl, fun x hx hne => by rcases hx with h | h; exact absurd h hne; simp at h⟩
  | x :: xs, y, hp, hy => by
    rw [List.pairwise_cons] at hp
    have hyx := hy x List.mem_cons_self
    rw [q_nx]
    have e17 := hE.1 17 rfl
    by_cases hr : κ.1.2.1 17 x ≤ κ.1.2.1 17 y
    · rw [if_pos hr]
      rw [e17, Int32.le_iff_toInt_le] at hr
      obtain ⟨b, h1, h2, h3⟩ := nxs hE xs y hp.2 (fun z hz => hy z (List.mem_cons_of_mem _ hz))
      refine ⟨b, h1, by rcases h2 with h2 | h2; exact Or.inl h2; exact Or.inr (List.mem_cons_of_mem _ h2), fun z hz hne => ?_⟩
      rcases hz with rfl | hz
      · exact h3 z (Or.inl rfl) hne
      · rcases List.mem_cons.mp hz with rfl | hz
        · rcases h2 with rfl | h2
          · unfold ahN; omega
          · have hby : b ≠ y := fun e => by
              have := hy b (List.mem_cons_of_mem _ h2)
              rw [e] at this
              omega
            have h4 := h3 y (Or.inl rfl) (Ne.symm hby)
            have h5 := hy b (List.mem_cons_of_mem _ h2)
            unfold ahN at h4 ⊢
            omega
        · exact h3 z (Or.inr hz) hne
    · rw [if_neg hr]
      rw [e17, Int32.le_iff_toInt_le] at hr
      obtain ⟨b, h1, h2, h3⟩ := nxs hE xs x hp.2 hp.1
      refine ⟨b, h1, Or.inr (by rcases h2 with rfl | h2; exact List.mem_cons_self; exact List.mem_cons_of_mem _ h2), fun z hz hne => ?_⟩
      rcases hz with rfl | hz
      · rcases h2 with rfl | h2
        · unfold ahN; omega
        · have hbx : b ≠ x := fun e => by
            have := hp.1 b h2
            rw [e] at this
            omega
          have h4 := h3 x (Or.inl rfl) (Ne.symm hbx)
          have h5 := hp.1 b h2
          unfold ahN at h4 ⊢
          omega
      · rcases List.mem_cons.mp hz with rfl | hz
        · exact h3 z (Or.inl rfl) hne
        · exact h3 z (Or.inr hz) hne
/-- who waits at fountain i -/
def wt (σ : rS) (i m : Nat) : Prop := σ.2.1 19 m = 0 ∧ σ.2.1 15 m = nI i
theorem Cx.mem {nf nj nm e0 : Nat} {B : Int} {σ : rS} {κ : cS} (h : Cx nf nj nm e0 B σ κ) {i : Nat} (hi : i < nf) (m : Nat) : m ∈ κ.2.1 i ↔ m < nm ∧ wt σ i m := by
  obtain ⟨hE, hN, hI, -, -, -, -, -, -, -, hH, -⟩ := h
  constructor
  · intro hm
    obtain ⟨h1, h2, h3⟩ := (hI.V i hi).2 m hm
    rw [hE.1 19 rfl] at h2
    rw [hE.1 15 rfl] at h3
    exact ⟨h1, h2, h3⟩
  · rintro ⟨h1, h2, h3⟩
    exact hH.2.1 m h1 h2 i hi h3
def fst_ok (σ : rS) (i n : Nat) (s : Int32) : Prop := (s = -1 ∧ ∀ x, x < n → ¬ wt σ i x) ∨ ∃ b, b < n ∧ s = nI b ∧ wt σ i b ∧ ∀ x, x < n → wt σ i x → x ≠ b → ahN σ b x
theorem first_ok {σ : rS} {i nm : Nat} (hnm : nm ≤ 10) (hi : i < 10) (hd : ∀ x, x < nm → ∀ y, y < nm → wt σ i x → wt σ i y → x ≠ y → (σ.2.1 23 x).toInt ≠ (σ.2.1 23 y).toInt) : ∀ (r j : Nat) (s : Int32), j + r = nm → fst_ok σ i j s → fst_ok σ i nm (lp (k_first σ (nI i)) j r s)
  | 0, j, s, h, h2 => by
    have e : j = nm := by omega
    subst e
    exact h2
  | r + 1, j, s, h, h2 => by
    rw [lp]
    refine first_ok hnm hi hd r (j + 1) _ (by omega) ?_
    unfold k_first
    have hw : (decide (σ.2.1 19 j = 0) && decide (σ.2.1 15 j = nI i)) = true ↔ wt σ i j := by
      unfold wt
      simp
    by_cases hwj : wt σ i j
    · rw [hw.mpr hwj]
      rcases h2 with ⟨e, h2⟩ | ⟨b, hb, e, hwb, h2⟩
      · rw [e, if_pos (by rw [show decide ((-1 : Int32) < 0) = true by decide]; rfl)]
        refine Or.inr ⟨j, by omega, rfl, hwj, fun x hx hwx hne => ?_⟩
        exact absurd hwx (h2 x (by omega))
      · subst e
        have h0 : decide (nI b < 0) = false := decide_eq_false (nI_pos (by omega))
        rw [h0, Bool.false_or, Bool.true_and]
        by_cases ha : ahN σ j b
        · rw [if_pos ((ah_iff (by omega) (by omega)).mpr ha)]
          refine Or.inr ⟨j, by omega, rfl, hwj, fun x hx hwx hne => ?_⟩
          by_cases exb : x = b
          · rw [exb]; exact ha
          · have h3 := h2 x (by omega) hwx exb
            unfold ahN at ha h3 ⊢
            omega
        · rw [if_neg (fun q => ha ((ah_iff (by omega) (by omega)).mp q))]
          refine Or.inr ⟨b, by omega, rfl, hwb, fun x hx hwx hne => ?_⟩
          by_cases exj : x = j
          · subst exj
            have := hd x (by omega) b (by omega) hwx hwb hne
            unfold ahN at ha ⊢
            omega
          · exact h2 x (by omega) hwx hne
    · have hf : (decide (σ.2.1 19 j = 0) && decide (σ.2.1 15 j = nI i)) = false := by
        cases hq : (decide (σ.2.1 19 j = 0) && decide (σ.2.1 15 j = nI i)) with
        | false => rfl
        | true => exact absurd (hw.mp hq) hwj
      rw [hf, Bool.false_and, if_neg (by decide)]
      rcases h2 with ⟨e, h2⟩ | ⟨b, hb, e, hwb, h2⟩
      · refine Or.inl ⟨e, fun x hx => ?_⟩
        by_cases exj : x = j
        · rw [exj]; exact hwj
        · exact h2 x (by omega)
      · refine Or.inr ⟨b, by omega, e, hwb, fun x hx hwx hne => ?_⟩
        by_cases exj : x = j
        · rw [exj] at hwx; exact absurd hwx hwj
        · exact h2 x (by omega) hwx hne
theorem Cx.came_ne {nf nj nm e0 : Nat} {B : Int} {σ : rS} {κ : cS} (h : Cx nf nj nm e0 B σ κ) {i : Nat} (hi : i < nf) : ∀ x, x < nm → ∀ y, y < nm → wt σ i x → wt σ i y → x ≠ y → (σ.2.1 23 x).toInt ≠ (σ.2.1 23 y).toInt := by
  intro x hx y hy hwx hwy hne
  have h1 := (h.mem hi x).mpr ⟨hx, hwx⟩
  have h2 := (h.mem hi y).mpr ⟨hy, hwy⟩
  have hH := h.2.2.2.2.2.2.2.2.2.2.1
  rcases pw_or _ (hH.1 i hi) x h1 y h2 hne with h3 | h3 <;> omega
/-- the next to fill is one -/
theorem next_eq {nf nj nm e0 : Nat} {B : Int} {σ : rS} {κ : cS} (h : Cx nf nj nm e0 B σ κ) {i : Nat} (hi : i < nf) : (q_nx κ (κ.2.1 i) none = none ∧ q_first σ (nI i) = -1) ∨ ∃ b, b < nm ∧ wt σ i b ∧ q_nx κ (κ.2.1 i) none = some b ∧ q_first σ (nI i) = nI b := by
  have hb := h.2.2.1.1
  have hfo : fst_ok σ i nm (q_first σ (nI i)) := by
    unfold q_first
    rw [h.2.1.2.2.2.1, nI_cl (by omega)]
    exact first_ok hb.2.2 (by omega) (h.came_ne hi) nm 0 (-1) (by omega) (Or.inl ⟨rfl, fun x hx => absurd hx (by omega)⟩)
  have hH := h.2.2.2.2.2.2.2.2.2.2.1
  have hmem := h.mem hi
  cases hl : κ.2.1 i with
  | nil =>
    refine Or.inl ⟨rfl, ?_⟩
    rcases hfo with ⟨e, -⟩ | ⟨b, hb1, -, hwb, -⟩
    · exact e
    · have := (hmem b).mpr ⟨hb1, hwb⟩
      rw [hl] at this
      simp at this
  | cons y ls =>
    refine Or.inr ?_
    have hp := hH.1 i hi
    rw [hl, List.pairwise_cons] at hp
    obtain ⟨b, h1, h2, h3⟩ := nxs h.1 ls y hp.2 hp.1
    have hbm : b ∈ κ.2.1 i := by
      rw [hl]
      rcases h2 with rfl | h2
      · exact List.mem_cons_self
      · exact List.mem_cons_of_mem _ h2
    obtain ⟨hb1, hwb⟩ := (hmem b).mp hbm
    refine ⟨b, hb1, hwb, h1, ?_⟩
    rcases hfo with ⟨-, h4⟩ | ⟨c, hc1, e, hwc, h4⟩
    · exact absurd hwb (h4 b hb1)
    · rw [e]
      by_cases ebc : c = b
      · rw [ebc]
      · have h5 := h4 b hb1 hwb (Ne.symm ebc)
        have hcm := (hmem c).mpr ⟨hc1, hwc⟩
        rw [hl] at hcm
        have h6 := h3 c (List.mem_cons.mp hcm) ebc
        unfold ahN at h5 h6
        omega
/-- the men ahead, counted -/
abbrev wt2 (σ : rS) (i m : Nat) : Prop := σ.2.1 19 m = 0 ∧ σ.2.1 15 m = nI i
def ahB (σ : rS) (m x : Nat) : Bool := q_ahead σ (nI x) (nI m)
theorem ct_after {σ : rS} {κ : cS} (hE : E σ κ) {m : Nat} (hm : m < 10) : ∀ (ls : List Nat) (a : Nat), (∀ x ∈ ls, x < 10 ∧ (σ.2.1 23 m).toInt < (σ.2.1 23 x).toInt) → q_ct κ m ls (nI a) false = nI (a + ls.countP (ahB σ m))
  | [], a, _ => by simp [q_ct]
  | x :: xs, a, h => by
    have hx := h x List.mem_cons_self
    have hne : ¬ x = m := fun e => by rw [e] at hx; omega
    have e17 := hE.1 17 rfl
    rw [q_ct, if_neg hne, List.countP_cons]
    by_cases hr : κ.1.2.1 17 m < κ.1.2.1 17 x
    · rw [if_pos (Or.inl hr)]
      rw [e17, Int32.lt_iff_toInt_lt] at hr
      have ht : ahB σ m x = true := (ah_iff (by omega) (by omega)).mpr (Or.inl hr)
      rw [ht, if_pos rfl, nI_1, ct_after hE hm xs (a + 1) (fun z hz => h z (List.mem_cons_of_mem _ hz))]
      congr 1
      omega
    · rw [if_neg (by rintro (q | q); exact hr q; exact absurd q.1 (by decide))]
      rw [e17, Int32.lt_iff_toInt_lt] at hr
      have ht : ¬ ahB σ m x = true := fun q => by
        have := (ah_iff (by omega) (by omega)).mp q
        unfold ahN at this
        omega
      rw [if_neg ht, ct_after hE hm xs a (fun z hz => h z (List.mem_cons_of_mem _ hz))]
      rfl
theorem ct_cnt {σ : rS} {κ : cS} (hE : E σ κ) {m : Nat} (hm : m < 10) : ∀ (ls : List Nat) (a : Nat), (∀ x ∈ ls, x < 10) → m ∈ ls → ls.Pairwise (fun a b => (σ.2.1 23 a).toInt < (σ.2.1 23 b).toInt) → q_ct κ m ls (nI a) true = nI (a + ls.countP (ahB σ m))
  | [], a, _, hm2, _ => by simp at hm2
  | x :: xs, a, h, hmm, hp => by
    rw [List.pairwise_cons] at hp
    have hx := h x List.mem_cons_self
    have e17 := hE.1 17 rfl
    rw [q_ct, List.countP_cons]
    by_cases he : x = m
    · subst he
      have ht : ¬ ahB σ x x = true := fun q => by
        have := (ah_iff (by omega) (by omega)).mp q
        unfold ahN at this
        omega
      rw [if_pos rfl, if_neg ht, ct_after hE hm xs a (fun z hz => ⟨h z (List.mem_cons_of_mem _ hz), hp.1 z hz⟩)]
      rfl
    · rw [if_neg he]
      have hmx : m ∈ xs := by
        rcases List.mem_cons.mp hmm with q | q
        · exact absurd q.symm he
        · exact q
      have hlt := hp.1 m hmx
      by_cases hr : κ.1.2.1 17 m < κ.1.2.1 17 x ∨ (true = true ∧ κ.1.2.1 17 x = κ.1.2.1 17 m)
      · rw [if_pos hr]
        have ht : ahB σ m x = true := (ah_iff (by omega) (by omega)).mpr (by
          rcases hr with hr | hr
          · rw [e17, Int32.lt_iff_toInt_lt] at hr
            exact Or.inl hr
          · have := hr.2
            rw [e17] at this
            exact Or.inr ⟨by rw [this], hlt⟩)
        rw [ht, if_pos rfl, nI_1, ct_cnt hE hm xs (a + 1) (fun z hz => h z (List.mem_cons_of_mem _ hz)) hmx hp.2]
        congr 1
        omega
      · rw [if_neg hr]
        have ht : ¬ ahB σ m x = true := fun q => by
          have h9 := (ah_iff (by omega) (by omega)).mp q
          refine hr ?_
          rw [e17]
          rcases h9 with h9 | h9
          · exact Or.inl (by rw [Int32.lt_iff_toInt_lt]; exact h9)
          · exact Or.inr ⟨rfl, Int32.toInt_inj.mp h9.1⟩
        rw [if_neg ht, ct_cnt hE hm xs a (fun z hz => h z (List.mem_cons_of_mem _ hz)) hmx hp.2]
        rfl
def k_ahB (σ : rS) (m : Int32) (x : Nat) : Bool := (decide (rg σ 19 (nI x) = 0) && decide (rg σ 15 (nI x) = rg σ 15 m)) && q_ahead σ (nI x) m
theorem lp_ah {σ : rS} {m : Int32} : ∀ (r j a : Nat), lp (k_ah σ m) j r (nI a) = nI (a + ((List.range' j r).countP (k_ahB σ m)))
  | 0, j, a => by simp [lp]
  | r + 1, j, a => by
    rw [lp, List.range'_succ, List.countP_cons]
    have e : k_ah σ m j (nI a) = nI (a + if k_ahB σ m j = true then 1 else 0) := by
      unfold k_ah
      rw [show ((decide (rg σ 19 (nI j) = 0) && decide (rg σ 15 (nI j) = rg σ 15 m)) && q_ahead σ (nI j) m) = k_ahB σ m j from rfl]
      cases k_ahB σ m j with
      | true => exact nI_1 a
      | false => exact Int32.add_zero _
    rw [e, lp_ah r (j + 1)]
    congr 1
    omega
theorem ahead_eq {nf nj nm e0 : Nat} {B : Int} {σ : rS} {κ : cS} (h : Cx nf nj nm e0 B σ κ) {m fi : Nat} (hm : m < nm) (hf : fi < nf) (e15 : σ.2.1 15 m = nI fi) (h19 : σ.2.1 19 m = 0) : q_ct κ m (κ.2.1 fi) 0 true = lp (k_ah σ (nI m)) 0 (σ.1 12).toNatClampNeg 0 := by
  have hb := h.2.2.1.1
  have hmem := h.mem hf
  have hH := h.2.2.2.2.2.2.2.2.2.2.1
  rw [h.2.1.2.2.2.1, nI_cl (by omega)]
  have e1 := ct_cnt h.1 (show m < 10 by omega) (κ.2.1 fi) 0 (fun x hx => by have := ((hmem x).mp hx).1; omega) ((hmem m).mpr ⟨hm, h19, e15⟩) (hH.1 fi hf)
  have e2 := lp_ah (σ := σ) (m := nI m) nm 0 0
  rw [show (nI 0) = 0 from rfl] at e1 e2
  rw [e1, e2, ← List.range_eq_range']
  congr 2
  have hperm : (κ.2.1 fi).Perm ((List.range nm).filter (fun x => decide (wt2 σ fi x))) := by
    rw [List.perm_ext_iff_of_nodup (h.2.2.1.V fi hf).1 (List.nodup_range.sublist List.filter_sublist)]
    intro x
    rw [hmem x, List.mem_filter, List.mem_range, decide_eq_true_eq]
    rfl
  rw [hperm.countP_eq, List.countP_filter]
  refine List.countP_congr (fun x hx => ?_)
  have hx := List.mem_range.mp hx
  unfold ahB k_ahB rg wt2
  rw [nI_cl (show x < 2 ^ 31 by omega), nI_cl (show m < 2 ^ 31 by omega), e15]
  simp only [Bool.and_eq_true, decide_eq_true_eq]
  constructor
  · rintro ⟨q1, q2, q3⟩
    exact ⟨⟨q2, q3⟩, q1⟩
  · rintro ⟨⟨q2, q3⟩, q1⟩
    exact ⟨q1, q2, q3⟩
