/-! ===== the two states ===== -/
def eqk (k : Nat) : Bool := [1, 2, 3, 4, 6, 7, 9, 10, 11, 13, 14, 15, 16, 17, 18, 19, 21, 22, 30].contains k
def eqs (k : Nat) : Bool := [0, 5, 12, 27, 28, 31, 35].contains k
def E (σ : rS) (κ : cS) : Prop := (∀ k, eqk k = true → κ.1.2.1 k = σ.2.1 k) ∧ (∀ k, eqs k = true → κ.1.1 k = σ.1 k) ∧ κ.1.2.2 = σ.2.2
theorem E.row {σ : rS} {κ : cS} (h : E σ κ) (k : Nat) (f : Nat → Int32) : E (ra σ k f) (cr κ k f) := by
  refine ⟨fun j hj => ?_, h.2.1, h.2.2⟩
  show (if j = k then f else κ.1.2.1 j) = (if j = k then f else σ.2.1 j)
  rw [h.1 j hj]
theorem E.cp {σ : rS} {κ : cS} (h : E σ κ) (k i : Nat) (v : Int32) (hk : eqk k = true) : E (ra σ k (upd (σ.2.1 k) i v)) (cp κ k i v) := by
  have h9 := h.row k (upd (σ.2.1 k) i v)
  rw [← h.1 k hk] at h9 ⊢
  exact h9
theorem E.l {σ : rS} {κ : cS} (h : E σ κ) (k : Nat) (f : Nat → Int32) (hk : eqk k = false) : E (ra σ k f) κ := by
  refine ⟨fun j hj => ?_, h.2.1, h.2.2⟩
  show κ.1.2.1 j = (if j = k then f else σ.2.1 j)
  rw [if_neg (fun e => by rw [e, hk] at hj; cases hj)]
  exact h.1 j hj
theorem E.r {σ : rS} {κ : cS} (h : E σ κ) (k : Nat) (f : Nat → Int32) (hk : eqk k = false) : E σ (cr κ k f) := by
  refine ⟨fun j hj => ?_, h.2.1, h.2.2⟩
  show (if j = k then f else κ.1.2.1 j) = σ.2.1 j
  rw [if_neg (fun e => by rw [e, hk] at hj; cases hj)]
  exact h.1 j hj
theorem E.sc {σ : rS} {κ : cS} (h : E σ κ) (k : Nat) (v : Int32) : E (rs σ k v) (cs κ k v) := by
  refine ⟨h.1, fun j hj => ?_, h.2.2⟩
  show upd κ.1.1 k v j = upd σ.1 k v j
  simp only [upd]
  rw [h.2.1 j hj]
theorem E.scl {σ : rS} {κ : cS} (h : E σ κ) (k : Nat) (v : Int32) (hk : eqs k = false) : E (rs σ k v) κ := by
  refine ⟨h.1, fun j hj => ?_, h.2.2⟩
  show κ.1.1 j = upd σ.1 k v j
  simp only [upd]
  rw [if_neg (fun e => by rw [e, hk] at hj; cases hj)]
  exact h.2.1 j hj
theorem E.scr {σ : rS} {κ : cS} (h : E σ κ) (k : Nat) (v : Int32) (hk : eqs k = false) : E σ (cs κ k v) := by
  refine ⟨h.1, fun j hj => ?_, h.2.2⟩
  show upd κ.1.1 k v j = σ.1 j
  simp only [upd]
  rw [if_neg (fun e => by rw [e, hk] at hj; cases hj)]
  exact h.2.1 j hj
theorem E.su {σ : rS} {κ : cS} (h : E σ κ) (k : Nat) (v : Int64) : E (rj σ (vp_updL σ.2.2 k v)) (cl κ k v) := by
  refine ⟨h.1, h.2.1, ?_⟩
  show vp_updL κ.1.2.2 k v = vp_updL σ.2.2 k v
  rw [h.2.2]
def tA (nf : Nat) (σ : rS) : Prop := ∀ i, i < nf → (1 ≤ (σ.2.1 1 i).toInt ∧ (σ.2.1 1 i).toInt ≤ 20) ∧ (0 ≤ (σ.2.1 2 i).toInt ∧ (σ.2.1 2 i).toInt ≤ 300)
def tB (σ : rS) : Prop := 0 ≤ (σ.1 27).toInt ∧ (σ.1 27).toInt ≤ 100
def tC (σ : rS) : Prop := 0 ≤ (σ.1 28).toInt ∧ (σ.1 28).toInt ≤ 20000
def tD (nf nj : Nat) (σ : rS) (κ : cS) : Prop := ∀ j, j < nj → (∀ i, i < 4 → κ.2.2 j i = σ.2.1 8 (4 * j + i)) ∧ ∀ i, i < nf → 1 ≤ (σ.2.1 8 (4 * j + i)).toInt ∧ (σ.2.1 8 (4 * j + i)).toInt ≤ 30
def tE (nm : Nat) (σ : rS) : Prop := ∀ m, m < nm → (1 ≤ (σ.2.1 14 m).toInt ∧ (σ.2.1 14 m).toInt ≤ 40) ∧ (0 ≤ (σ.2.1 21 m).toInt ∧ (σ.2.1 21 m).toInt ≤ (σ.2.1 14 m).toInt)
def tF (nm e0 : Nat) (σ : rS) (κ : cS) : Prop := ∀ m, m < nm → m ≠ e0 → ¬ σ.2.1 19 m = 0 → κ.1.2.1 20 m = σ.2.1 20 m ∧ 1 ≤ (σ.2.1 20 m).toInt
def tG (nm : Nat) (σ : rS) (κ : cS) : Prop := ∀ m, m < nm → 0 < (σ.2.1 21 m).toInt → κ.1.2.1 24 m = σ.2.1 24 m ∧ κ.1.2.1 25 m = σ.2.1 25 m
def tH (nf nm : Nat) (B : Int) (σ : rS) (κ : cS) : Prop := (∀ i, i < nf → (κ.2.1 i).Pairwise (fun a b => (σ.2.1 23 a).toInt < (σ.2.1 23 b).toInt)) ∧ (∀ m, m < nm → σ.2.1 19 m = 0 → ∀ i, i < nf → σ.2.1 15 m = nI i → m ∈ κ.2.1 i) ∧ (∀ m, m < nm → (σ.2.1 23 m).toInt < (σ.1 26).toInt) ∧ 0 ≤ (σ.1 26).toInt ∧ (σ.1 26).toInt ≤ B
def tI (σ : rS) (κ : cS) : Prop := ∃ np q : Nat, np ≤ 100 ∧ q < 100 ∧ σ.1 35 = nI np ∧ κ.1.1 42 = nI q ∧ ∀ i, i < np → ∀ w, w < 6 → κ.1.2.1 36 (6 * ((q + 99 - i) % 100) + w) = σ.2.1 36 (6 * (np - 1 - i) + w)
def tJ (σ : rS) (κ : cS) : Prop := ∀ k, k < 10 → κ.1.2.1 33 k = σ.2.1 33 k ∧ κ.1.2.1 40 k = σ.2.1 40 k
def tK (σ : rS) : Prop := ∀ p : Nat, p < (σ.1 31).toNatClampNeg → 0 ≤ (σ.2.1 30 p).toInt
def tL (nf nj nm : Nat) (σ : rS) : Prop := (∀ m, nm ≤ m → m < 10 → σ.2.1 17 m = 0 ∧ σ.2.1 19 m = 0 ∧ σ.2.1 21 m = 0 ∧ σ.2.1 22 m = 0) ∧ (∀ i, nf ≤ i → i < 4 → σ.2.1 2 i = 0 ∧ σ.2.1 4 i = 0) ∧ (∀ j, nj ≤ j → j < 8 → σ.2.1 9 j = 0 ∧ σ.2.1 10 j = 0 ∧ σ.2.1 11 j = 0)
/-- the class and the reference are in one state -/
def Cx (nf nj nm e0 : Nat) (B : Int) (σ : rS) (κ : cS) : Prop := E σ κ ∧ rN nf nj nm σ ∧ cI nf nj nm κ ∧ tA nf σ ∧ tB σ ∧ tC σ ∧ tD nf nj σ κ ∧ tE nm σ ∧ tF nm e0 σ κ ∧ tG nm σ κ ∧ tH nf nm B σ κ ∧ tI σ κ ∧ tJ σ κ ∧ tK σ ∧ tL nf nj nm σ
/-- none set out in this minute -/
def tO (nm : Nat) (σ : rS) (κ : cS) : Prop := ∀ m, m < nm → (κ.1.2.1 41 m).toInt < (σ.1 28).toInt
theorem Cx.kd {nf nj nm e0 : Nat} {B : Int} {σ : rS} {κ : cS} (h : Cx nf nj nm e0 B σ κ) {m : Nat} (hm : m < nm) : ∃ k fi ji : Nat, k < 3 ∧ fi < nf ∧ ji < nj ∧ σ.2.1 13 m = nI k ∧ σ.2.1 15 m = nI fi ∧ σ.2.1 16 m = nI ji := by
  obtain ⟨hE, -, hI, -⟩ := h
  obtain ⟨fi, h1, h2⟩ := hI.2.2.1 m hm
  obtain ⟨ji, h3, h4⟩ := hI.2.2.2.1 m hm
  obtain ⟨k, h5, h6⟩ := hI.2.2.2.2.1 m hm
  rw [hE.1 15 rfl] at h2
  rw [hE.1 16 rfl] at h4
  rw [hE.1 13 rfl] at h6
  exact ⟨k, fi, ji, h5, h1, h3, h6, h2, h4⟩
theorem div_rng : ∀ p, p < 6 → 0 < p → ∀ x, x < 31 → 0 < x → (nI x + nI p - 1) / nI p = nI ((x + p - 1) / p) := by decide +kernel
theorem cut2 : ∀ f, f < 10 → (nI f + 2 - 1) / 2 = (nI f + 1) / 2 ∧ (nI f + 1) / 2 = nI ((f + 1) / 2) := by decide +kernel
theorem nat_of {x : Int32} {a b : Nat} (h1 : (a : Int) ≤ x.toInt) (h2 : x.toInt ≤ b) (hb : b < 100000) : ∃ k : Nat, a ≤ k ∧ k ≤ b ∧ x = nI k := by
  refine ⟨x.toInt.toNat, by omega, by omega, ?_⟩
  apply Int32.toInt_inj.mp
  rw [nI_toInt (by omega)]
  omega
theorem i4 {j f : Nat} (hj : j < 8) (hf : f < 4) : 4 * nI j + nI f = nI (4 * j + f) := by
  apply Int32.toInt_inj.mp
  have h4 : (4 : Int32).toInt = 4 := by decide
  have h1 : (4 * nI j).toInt = 4 * j := by
    rw [fb_mulI (by rw [nI_toInt (by omega), h4]; omega) (by rw [nI_toInt (by omega), h4]; omega), nI_toInt (by omega), h4]
  rw [fb_addI (by rw [h1, nI_toInt (by omega)]; omega) (by rw [h1, nI_toInt (by omega)]; omega), h1, nI_toInt (by omega), nI_toInt (by omega)]
  omega
/-- the ways are one, and of 1 to 100 minutes -/
theorem way_eq {nf nj nm e0 : Nat} {B : Int} {σ : rS} {κ : cS} (h : Cx nf nj nm e0 B σ κ) {m j : Nat} (hm : m < nm) (hj : j < nj) : q_way σ (nI m) (nI j) 1 = q_upC κ m j ∧ q_way σ (nI m) (nI j) 0 = q_dnC κ m j ∧ (1 ≤ (q_upC κ m j).toInt ∧ (q_upC κ m j).toInt ≤ 100) ∧ (1 ≤ (q_dnC κ m j).toInt ∧ (q_dnC κ m j).toInt ≤ 100) := by
  obtain ⟨k, fi, ji, hk, hf, -, e13, e15, -⟩ := h.kd hm
  obtain ⟨hE, hN, hI, -, -, -, hD, -⟩ := h
  have hb := hI.1
  have cm := nI_cl (n := m) (by omega)
  have cj := nI_cl (n := j) (by omega)
  obtain ⟨x, hx1, hx2, ex⟩ := nat_of (a := 1) (b := 30) ((hD j hj).2 fi hf).1 ((hD j hj).2 fi hf).2 (by omega)
  obtain ⟨p, hp1, hp2, ep⟩ := nat_of (a := 1) (b := 5) (hN.1.2.2.2.2.2.2.2.1 m (by rw [hN.2.2.2.1, nI_toInt (by omega)]; omega)).1 (hN.1.2.2.2.2.2.2.2.1 m (by rw [hN.2.2.2.1, nI_toInt (by omega)]; omega)).2 (by omega)
  obtain ⟨fl, -, hfl, efl⟩ := nat_of (a := 0) (b := 9) (hN.1.2.2.2.2.2.2.2.2 j (by omega)).1 (hN.1.2.2.2.2.2.2.2.2 j (by omega)).2 (by omega)
  have hmi : q_mi κ m j = nI x := by
    unfold q_mi
    rw [hE.1 15 rfl, e15, q_or, if_pos ⟨nI_pos (by omega), nI_lt (by omega) (by omega)⟩, nI_cl (by omega), (hD j hj).1 fi (by omega), ex]
  have hrow : rg σ 8 (4 * nI j + rg σ 15 (nI m)) = nI x := by
    unfold rg
    rw [cm, e15, i4 (by omega) (by omega), nI_cl (by omega), ex]
  have h13 : rg σ 13 (nI m) = nI k := by unfold rg; rw [cm, e13]
  have h18 : rg σ 18 (nI m) = nI p := by unfold rg; rw [cm, ep]
  have h6 : rg σ 6 (nI j) = nI fl := by unfold rg; rw [cj, efl]
  have hdn : q_dnC κ m j = q_wd k (nI x) (nI p) := by
    unfold q_dnC
    rw [hmi, hE.1 13 rfl, e13, nI_cl (by omega), hE.1 18 rfl, ep]
  have hup : q_upC κ m j = q_wd k (nI x) (nI p) + q_cl k (nI fl) := by
    unfold q_upC
    rw [hdn, hE.1 13 rfl, e13, nI_cl (by omega), hE.1 6 rfl, efl]
  rw [hup, hdn]
  unfold q_way
  rw [hrow, h13, h18, h6]
  match k, hk with
  | 0, _ =>
    refine ⟨rfl, rfl, ?_, ?_⟩
    · show 1 ≤ (nI x + nI fl).toInt ∧ (nI x + nI fl).toInt ≤ 100
      rw [nI_add, nI_toInt (by omega)]
      omega
    · show 1 ≤ (nI x).toInt ∧ (nI x).toInt ≤ 100
      rw [nI_toInt (by omega)]
      omega
  | 1, _ =>
    have e2 : q_cut (nI fl) 2 = (nI fl + 1) / 2 := by
      rw [q_cut, if_pos (by decide)]
      exact (cut2 fl (by omega)).1
    refine ⟨?_, rfl, ?_, ?_⟩
    · show nI x + (nI fl + 1) / 2 = nI x + q_cut (nI fl) 2
      rw [e2]
    · show 1 ≤ (nI x + q_cut (nI fl) 2).toInt ∧ (nI x + q_cut (nI fl) 2).toInt ≤ 100
      rw [e2, (cut2 fl (by omega)).2, nI_add, nI_toInt (by omega)]
      omega
    · show 1 ≤ (nI x).toInt ∧ (nI x).toInt ≤ 100
      rw [nI_toInt (by omega)]
      omega
  | 2, _ =>
    have e2 : q_cut (nI x) (nI p) = (nI x + nI p - 1) / nI p := by
      rw [q_cut, if_pos (by rw [show (1 : Int32) = nI 1 from rfl, nI_le_iff (by omega) (by omega)]; omega)]
    have e3 := div_rng p (by omega) (by omega) x (by omega) (by omega)
    have hle : (x + p - 1) / p ≤ 100 := Nat.le_trans (Nat.div_le_self _ _) (by omega)
    have hge : 1 ≤ (x + p - 1) / p := (Nat.le_div_iff_mul_le (by omega)).mpr (by omega)
    refine ⟨?_, ?_, ?_, ?_⟩
    · show (nI x + nI p - 1) / nI p = q_cut (nI x) (nI p) + 0
      rw [e2, Int32.add_zero]
    · show (nI x + nI p - 1) / nI p = q_cut (nI x) (nI p)
      rw [e2]
    · show 1 ≤ (q_cut (nI x) (nI p) + 0).toInt ∧ (q_cut (nI x) (nI p) + 0).toInt ≤ 100
      rw [Int32.add_zero, e2, e3, nI_toInt (by omega)]
      omega
    · show 1 ≤ (q_cut (nI x) (nI p)).toInt ∧ (q_cut (nI x) (nI p)).toInt ≤ 100
      rw [e2, e3, nI_toInt (by omega)]
      omega
theorem can_eq {nf nj nm e0 : Nat} {B : Int} {σ : rS} {κ : cS} (h : Cx nf nj nm e0 B σ κ) {k j : Nat} (hk : k < 3) (hj : j < nj) : q_can k (κ.1.2.1 6 j) = q_canGo σ (nI k) (nI j) := by
  have hb := h.2.2.1.1
  unfold q_can q_canGo rg
  rw [nI_cl (show j < 2 ^ 31 by omega), h.1.1 6 rfl]
  match k, hk with
  | 0, _ =>
    rw [if_pos rfl, show decide ((0 : Int32) < nI 0) = false by decide]
    rfl
  | 1, _ =>
    rw [if_neg (by decide), show decide ((0 : Int32) < nI 1) = true by decide]
    rfl
  | 2, _ =>
    rw [if_neg (by decide), show decide ((0 : Int32) < nI 2) = true by decide]
    rfl
