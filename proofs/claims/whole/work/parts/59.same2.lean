/-! ===== the same answers, 2 ===== -/
theorem fmod_eq : ∀ q, q < 100 → ∀ i, i < 100 → q_fmod (nI q - 1 - nI i) 100 = nI ((q + 99 - i) % 100) := by decide +kernel
theorem fact_eq {nf nj nm e0 : Nat} {B : Int} {σ : rS} {κ : cS} (h : Cx nf nj nm e0 B σ κ) {np i w : Nat} (hp : σ.1 35 = nI np) (hnp : np ≤ 100) (hi : i < np) (hw : w < 6) : g_fact κ (nI i) (nI w) = σ.2.1 36 (6 * (np - 1 - i) + w) := by
  obtain ⟨np2, q, hn2, hq, e35, e42, hr⟩ := h.2.2.2.2.2.2.2.2.2.2.2.1
  have : np2 = np := (nI_eq_iff (by omega) (by omega)).mp (e35.symm.trans hp)
  subst this
  unfold g_fact
  rw [e42, fmod_eq q hq i (by omega), i6 (by omega) hw, q_or, if_pos ⟨nI_pos (by omega), nI_lt (by omega) (by omega)⟩, nI_cl (by omega)]
  exact hr i hi w hw
theorem s_poured {c : Int} {nf nj nm : Nat} {σ : rS} {κ : cS} (h : S c nf nj nm σ κ) {i w : Int32} : g_poured κ i w = f_poured σ i w := by
  unfold g_poured f_poured
  rw [h.1.1.2.1 35 rfl]
  cases hq : (!decide (i < 0) && q_in w 0 5) with
  | false => rfl
  | true =>
    rw [if_pos rfl, if_pos rfl]
    by_cases hi : i < σ.1 35
    · rw [if_pos hi, if_pos hi]
      rw [Bool.and_eq_true] at hq
      obtain ⟨np, hnp, e35, -⟩ := rI_np h.1.2.1.1
      rw [e35] at hi
      obtain ⟨k, hk, rfl⟩ := i_nat (by simpa using hq.1) hi (by omega)
      obtain ⟨x, hx, rfl⟩ := in_nat (b := 5) hq.2 (by decide) (by decide) (by decide)
      rw [fact_eq h.1 e35 hnp hk (by omega)]
      unfold rg
      have e1 : σ.1 35 - 1 - nI k = nI (np - 1 - k) := by
        apply Int32.toInt_inj.mp
        rw [e35]
        have t1 : (nI np - 1).toInt = (np : Int) - 1 := by rw [t_sub1 (by rw [nI_toInt (by omega)]; omega), nI_toInt (by omega)]
        rw [fb_subI (by rw [t1, nI_toInt (by omega)]; omega) (by rw [t1, nI_toInt (by omega)]; omega), t1, nI_toInt (by omega), nI_toInt (by omega)]
        omega
      rw [e1, i6r (by omega) (by omega)]
    · rw [if_neg hi, if_neg hi]
/-- ones that are gathered: the order doesn't matter -/
theorem or_lp {u : Nat → Int32} : ∀ (n i : Nat) (s : Int32), lp (fun i s => s ||| u i) i n s = s ||| lp (fun i s => s ||| u i) i n 0
  | 0, i, s => by
    show s = s ||| 0
    exact Int32.or_zero.symm
  | n + 1, i, s => by
    rw [lp, lp, or_lp n (i + 1) (s ||| u i), or_lp n (i + 1) (0 ||| u i), Int32.zero_or, Int32.or_assoc]
theorem or_end {u : Nat → Int32} : ∀ (n i : Nat) (s : Int32), lp (fun i s => s ||| u i) i (n + 1) s = lp (fun i s => s ||| u i) i n s ||| u (i + n)
  | 0, i, s => rfl
  | n + 1, i, s => by
    rw [lp, or_end n (i + 1) (s ||| u i), show i + 1 + n = i + (n + 1) by omega]
    rfl
theorem or_shift {u : Nat → Int32} : ∀ (n i : Nat) (s : Int32), lp (fun i s => s ||| u i) (i + 1) n s = lp (fun i s => s ||| u (i + 1)) i n s
  | 0, i, s => rfl
  | n + 1, i, s => by
    rw [lp, lp, or_shift n (i + 1)]
theorem or_rev : ∀ (n : Nat) (u v : Nat → Int32), (∀ i, i < n → u i = v (n - 1 - i)) → lp (fun i s => s ||| u i) 0 n 0 = lp (fun i s => s ||| v i) 0 n 0
  | 0, u, v, _ => rfl
  | n + 1, u, v, h => by
    rw [lp, or_lp, Int32.zero_or, or_shift, or_rev n (fun i => u (i + 1)) v (fun i hi => by show u (i + 1) = _; rw [h (i + 1) (by omega)]; congr 1; omega), or_end, h 0 (by omega), Int32.or_comm]
    congr 2
    omega
def uR (σ : rS) (f t : Int32) (k : Nat) : Int32 := if (decide (rg σ 36 (6 * nI k + 4) = f) && !decide (rg σ 36 (6 * nI k + 5) < t)) = true then 1 <<< (rg σ 36 (6 * nI k + 1) &&& 31) else 0
def uC (κ : cS) (f t : Int32) (k : Nat) : Int32 := if g_fact κ (nI k) 4 = f ∧ ¬ g_fact κ (nI k) 5 < t then 1 <<< (g_fact κ (nI k) 1 &&& 31) else 0
theorem kR_eq {σ : rS} {f t : Int32} : k_foul σ f t = fun i s => s ||| uR σ f t i := rfl
theorem kC_eq {κ : cS} {f t : Int32} : k_cfoul κ f t = fun i s => s ||| uC κ f t i := by
  funext i s
  unfold k_cfoul uC
  generalize (1 <<< (g_fact κ (nI i) 1 &&& 31) : Int32) = x
  by_cases q : g_fact κ (nI i) 4 = f ∧ ¬ g_fact κ (nI i) 5 < t
  · rw [if_pos q, if_pos q]
  · rw [if_neg q, if_neg q, Int32.or_zero]
theorem u_eq {nf nj nm e0 : Nat} {B : Int} {σ : rS} {κ : cS} (h : Cx nf nj nm e0 B σ κ) {np i : Nat} {f t : Int32} (e35 : σ.1 35 = nI np) (hnp : np ≤ 100) (hi : i < np) : uC κ f t i = uR σ f t (np - 1 - i) := by
  have g4 : g_fact κ (nI i) 4 = rg σ 36 (6 * nI (np - 1 - i) + 4) := by
    have h9 := fact_eq h e35 hnp hi (w := 4) (by omega)
    unfold rg
    rw [show (6 * nI (np - 1 - i) + 4 : Int32).toNatClampNeg = 6 * (np - 1 - i) + 4 from i6r (by omega) (c := 4) (by omega)]
    exact h9
  have g5 : g_fact κ (nI i) 5 = rg σ 36 (6 * nI (np - 1 - i) + 5) := by
    have h9 := fact_eq h e35 hnp hi (w := 5) (by omega)
    unfold rg
    rw [show (6 * nI (np - 1 - i) + 5 : Int32).toNatClampNeg = 6 * (np - 1 - i) + 5 from i6r (by omega) (c := 5) (by omega)]
    exact h9
  have g1 : g_fact κ (nI i) 1 = rg σ 36 (6 * nI (np - 1 - i) + 1) := by
    have h9 := fact_eq h e35 hnp hi (w := 1) (by omega)
    unfold rg
    rw [show (6 * nI (np - 1 - i) + 1 : Int32).toNatClampNeg = 6 * (np - 1 - i) + 1 from i6r (by omega) (c := 1) (by omega)]
    exact h9
  unfold uC uR
  rw [g4, g5, g1]
  generalize (1 <<< (rg σ 36 (6 * nI (np - 1 - i) + 1) &&& 31) : Int32) = x
  by_cases q : rg σ 36 (6 * nI (np - 1 - i) + 4) = f ∧ ¬ rg σ 36 (6 * nI (np - 1 - i) + 5) < t
  · rw [if_pos q, if_pos (by rw [Bool.and_eq_true]; exact ⟨decide_eq_true q.1, by rw [decide_eq_false q.2]; rfl⟩)]
  · rw [if_neg q, if_neg]
    intro q2
    rw [Bool.and_eq_true] at q2
    refine q ⟨of_decide_eq_true q2.1, fun q3 => ?_⟩
    have q4 := q2.2
    rw [decide_eq_true q3] at q4
    cases q4
theorem s_foul {c : Int} {nf nj nm : Nat} {σ : rS} {κ : cS} (h : S c nf nj nm σ κ) {f t : Int32} : g_foul κ f t = f_foul σ f t := by
  unfold g_foul f_foul
  rw [h.1.1.isF, h.1.1.2.1 35 rfl]
  cases hq : (q_isF σ f && decide (0 ≤ t)) with
  | false => rfl
  | true =>
    rw [if_pos rfl, if_pos rfl]
    obtain ⟨np, hnp, e35, ecl⟩ := rI_np h.1.2.1.1
    rw [ecl, kR_eq, kC_eq]
    exact or_rev np _ _ (fun i hi => u_eq h.1 e35 hnp hi)
/-- what typing keeps -/
theorem typed_ok {w : Int64} {nf nj nm : Nat} {B : Int} : ∀ (m : Nat) (σ : rS) (κ : cS) (t : Nat), Cx nf nj nm 100 B σ κ → σ.1 31 = nI t → t + m ≤ 50 → m ≤ 8 → q_okB w m = true → Cx nf nj nm 100 B (q_typed w m σ) (q_typed w m κ.1, κ.2) ∧ (q_typed w m σ).1 28 = σ.1 28 ∧ (q_typed w m κ.1).2.1 41 = κ.1.2.1 41
  | 0, σ, κ, t, h, _, _, _, _ => ⟨h, rfl, rfl⟩
  | m + 1, σ, κ, t, h, e31, ht, hm, hok => by
    rw [q_okB, Bool.and_eq_true] at hok
    rw [q_typed, q_typed]
    have hk31 : κ.1.1 31 = σ.1 31 := h.1.2.1 31 rfl
    have hby := (q_in_iff.mp hok.1).1
    rw [show (32 : Int32).toInt = 32 by decide] at hby
    have h1 : Cx nf nj nm 100 B (rs (rp σ 30 (σ.1 31) (q_byte w (nI m))) 31 (σ.1 31 + 1)) (rs (rp κ.1 30 (κ.1.1 31) (q_byte w (nI m))) 31 (κ.1.1 31 + 1), κ.2) := by
      rw [hk31]
      obtain ⟨hE, hN, hI, hA, hB, hC, hD, hEe, hF, hG, hH, hIi, hJ, hK, hL⟩ := h
      have hb := hI.1
      have ct := nI_cl (n := t) (by omega)
      have e1 : σ.1 31 + 1 = nI (t + 1) := by rw [e31]; exact nI_1 t
      refine ⟨(hE.cp 30 _ _ rfl).sc 31 _, ⟨⟨hN.1.1, hN.1.2.1, hN.1.2.2.1, ?_, hN.1.2.2.2.2⟩, hN.2⟩, ⟨hI.1, hI.2.1, hI.2.2.1, hI.2.2.2.1, hI.2.2.2.2.1, ⟨t + 1, by omega, e1⟩, hI.2.2.2.2.2.2⟩, hA, hB, hC, hD, hEe, hF, hG, hH, hIi, hJ, ?_, hL⟩
      · show 0 ≤ (σ.1 31 + 1).toInt ∧ (σ.1 31 + 1).toInt ≤ 50
        rw [e1, nI_toInt (by omega)]
        omega
      · intro p hp
        have hp8 : p < (σ.1 31 + 1).toNatClampNeg := hp
        rw [e1, nI_cl (by omega)] at hp8
        show 0 ≤ (upd (σ.2.1 30) (σ.1 31).toNatClampNeg (q_byte w (nI m)) p).toInt
        rw [e31, ct]
        by_cases e : p = t
        · rw [e, upd_at]
          omega
        · rw [upd_ne e]
          exact hK p (by rw [e31, ct]; omega)
    obtain ⟨a, b, d⟩ := typed_ok m _ _ (t + 1) h1 (by show σ.1 31 + 1 = _; rw [e31]; exact nI_1 t) (by omega) (by omega) hok.2
    exact ⟨a, b, d⟩
theorem s_type {c : Int} {nf nj nm : Nat} {σ : rS} {κ : cS} (h : S c nf nj nm σ κ) {w : Int64} {n : Int32} : (f_type κ.1 w n).1 = (f_type σ w n).1 ∧ S (c + 1) nf nj nm (f_type σ w n).2 ((f_type κ.1 w n).2, κ.2) := by
  unfold f_type
  rw [h.1.1.2.1 31 rfl]
  cases hq : q_in n 1 8 with
  | false => exact ⟨rfl, h.up⟩
  | true =>
    rw [if_pos rfl, if_pos rfl]
    obtain ⟨N, hN8, rfl⟩ := in_nat (b := 8) hq (by decide) (by decide) (by decide)
    rw [nI_cl (n := N) (by omega)]
    cases hok : q_okB w N with
    | false => exact ⟨rfl, h.up⟩
    | true =>
      rw [if_pos rfl, if_pos rfl]
      by_cases hr : σ.1 31 + nI N ≤ 50
      · rw [if_pos hr, if_pos hr]
        have hroom := ty_room h.1.2.1.1 hN8 hr
        obtain ⟨a, b, d⟩ := typed_ok N σ κ _ h.1 (rI_T h.1.2.1.1).1 hroom hN8 hok
        refine ⟨a.1.2.1 31 rfl, ?_, ?_⟩
        · show Cx nf nj nm 100 (10 * ((q_typed w N σ).1 28).toInt + (c + 1)) _ _
          rw [b]
          exact a.wB (by omega)
        · intro m hm
          show ((q_typed w N κ.1).2.1 41 m).toInt < ((q_typed w N σ).1 28).toInt
          rw [b, d]
          exact h.2 m hm
      · rw [if_neg hr, if_neg hr]
        exact ⟨rfl, h.up⟩
