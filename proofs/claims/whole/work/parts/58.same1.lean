/-! ===== the same answers, 1 ===== -/
/-- between calls: the two states are one; c calls have been -/
def S (c : Int) (nf nj nm : Nat) (σ : rS) (κ : cS) : Prop := Cx nf nj nm 100 (10 * (σ.1 28).toInt + c) σ κ ∧ tO nm σ κ
theorem S.up {c : Int} {nf nj nm : Nat} {σ : rS} {κ : cS} (h : S c nf nj nm σ κ) : S (c + 1) nf nj nm σ κ := ⟨h.1.wB (by omega), h.2⟩
theorem E.isF {σ : rS} {κ : cS} (h : E σ κ) (x : Int32) : q_isF κ.1 x = q_isF σ x := by unfold q_isF; rw [h.2.1 0 rfl]
theorem E.isJ {σ : rS} {κ : cS} (h : E σ κ) (x : Int32) : q_isJ κ.1 x = q_isJ σ x := by unfold q_isJ; rw [h.2.1 5 rfl]
theorem E.isM {σ : rS} {κ : cS} (h : E σ κ) (x : Int32) : q_isM κ.1 x = q_isM σ x := by unfold q_isM; rw [h.2.1 12 rfl]
theorem S.nF {c : Int} {nf nj nm : Nat} {σ : rS} {κ : cS} (h : S c nf nj nm σ κ) {x : Int32} (hx : q_isF σ x = true) : ∃ k, k < nf ∧ x = nI k := by
  rcases at_F h.1.2.2.1.z (fun i => i) x with ⟨-, e⟩ | ⟨k, hk, e, -, -⟩
  · rw [h.1.1.isF, hx] at e; cases e
  · exact ⟨k, hk, e⟩
theorem S.nJ {c : Int} {nf nj nm : Nat} {σ : rS} {κ : cS} (h : S c nf nj nm σ κ) {x : Int32} (hx : q_isJ σ x = true) : ∃ k, k < nj ∧ x = nI k := by
  rcases at_J h.1.2.2.1.z (fun i => i) x with ⟨-, e⟩ | ⟨k, hk, e, -, -⟩
  · rw [h.1.1.isJ, hx] at e; cases e
  · exact ⟨k, hk, e⟩
theorem S.nM {c : Int} {nf nj nm : Nat} {σ : rS} {κ : cS} (h : S c nf nj nm σ κ) {x : Int32} (hx : q_isM σ x = true) : ∃ k, k < nm ∧ x = nI k := by
  rcases at_M h.1.2.2.1.z (fun i => i) x with ⟨-, e⟩ | ⟨k, hk, e, -, -⟩
  · rw [h.1.1.isM, hx] at e; cases e
  · exact ⟨k, hk, e⟩
theorem s_drinks {c : Int} {nf nj nm : Nat} {σ : rS} {κ : cS} (h : S c nf nj nm σ κ) {j n : Int32} : (f_drinks κ.1 j n).1 = (f_drinks σ j n).1 ∧ S (c + 1) nf nj nm (f_drinks σ j n).2 ((f_drinks κ.1 j n).2, κ.2) := by
  unfold f_drinks
  rw [h.1.1.isJ]
  cases hq : (q_isJ σ j && q_in n 0 9) with
  | false => exact ⟨rfl, h.up⟩
  | true =>
    rw [Bool.and_eq_true] at hq
    obtain ⟨k, hk, rfl⟩ := h.nJ hq.1
    have h9 := h.up
    obtain ⟨⟨hE, hN, hI, hA, hB, hC, hD, hEe, hF, hG, hH, hIi, hJ, hK, hL⟩, hO⟩ := h
    have hb := hI.1
    have ck := nI_cl (n := k) (by omega)
    refine ⟨?_, ⟨?_, hN, hI, hA, hB, hC, hD, hEe, hF, hG, h9.1.2.2.2.2.2.2.2.2.2.2.1, hIi, hJ, hK, hL.1, hL.2.1, fun x hx hx2 => ?_⟩, hO⟩
    · show rg κ.1 10 (nI k) = rg σ 10 (nI k)
      unfold rg
      rw [hE.1 10 rfl]
    · exact hE.cp 10 _ n rfl
    · have h8 := hL.2.2 x hx hx2
      refine ⟨h8.1, ?_, h8.2.2⟩
      show upd (σ.2.1 10) (nI k).toNatClampNeg n x = 0
      rw [ck, upd_ne (by omega)]
      exact h8.2.1
theorem s_right {c : Int} {nf nj nm : Nat} {σ : rS} {κ : cS} (h : S c nf nj nm σ κ) {m r : Int32} : (f_right κ.1 m r).1 = (f_right σ m r).1 ∧ S (c + 1) nf nj nm (f_right σ m r).2 ((f_right κ.1 m r).2, κ.2) := by
  unfold f_right
  rw [h.1.1.isM]
  cases hq : (q_isM σ m && q_in r 0 3) with
  | false => exact ⟨rfl, h.up⟩
  | true =>
    rw [Bool.and_eq_true] at hq
    obtain ⟨k, hk, rfl⟩ := h.nM hq.1
    have h9 := h.up
    obtain ⟨⟨hE, hN, hI, hA, hB, hC, hD, hEe, hF, hG, hH, hIi, hJ, hK, hL⟩, hO⟩ := h
    have hb := hI.1
    have ck := nI_cl (n := k) (by omega)
    refine ⟨?_, ⟨?_, hN, hI, hA, hB, hC, hD, hEe, hF, hG, h9.1.2.2.2.2.2.2.2.2.2.2.1, hIi, hJ, hK, fun x hx hx2 => ?_, hL.2⟩, hO⟩
    · show rg κ.1 17 (nI k) = rg σ 17 (nI k)
      unfold rg
      rw [hE.1 17 rfl]
    · exact hE.cp 17 _ r rfl
    · have h8 := hL.1 x hx hx2
      refine ⟨?_, h8.2⟩
      show upd (σ.2.1 17) (nI k).toNatClampNeg r x = 0
      rw [ck, upd_ne (by omega)]
      exact h8.1
theorem s_pace {c : Int} {nf nj nm : Nat} {σ : rS} {κ : cS} (h : S c nf nj nm σ κ) {m r : Int32} : (f_pace κ.1 m r).1 = (f_pace σ m r).1 ∧ S (c + 1) nf nj nm (f_pace σ m r).2 ((f_pace κ.1 m r).2, κ.2) := by
  unfold f_pace
  rw [h.1.1.isM, show rg κ.1 13 m = rg σ 13 m by unfold rg; rw [h.1.1.1 13 rfl]]
  cases hq : (q_isM σ m && q_in r 1 5) with
  | false => exact ⟨rfl, h.up⟩
  | true =>
    rw [if_pos rfl, if_pos rfl]
    by_cases h13 : rg σ 13 m = 2
    · rw [if_pos h13, if_pos h13]
      rw [Bool.and_eq_true] at hq
      obtain ⟨k, hk, rfl⟩ := h.nM hq.1
      have hr := q_in_iff.mp hq.2
      rw [t_1, show (5 : Int32).toInt = 5 by decide] at hr
      have h9 := h.up
      obtain ⟨⟨hE, hN, hI, hA, hB, hC, hD, hEe, hF, hG, hH, hIi, hJ, hK, hL⟩, hO⟩ := h
      have hb := hI.1
      have ck := nI_cl (n := k) (by omega)
      refine ⟨?_, ⟨?_, ⟨⟨hN.1.1, hN.1.2.1, hN.1.2.2.1, hN.1.2.2.2.1, hN.1.2.2.2.2.1, hN.1.2.2.2.2.2.1, hN.1.2.2.2.2.2.2.1, fun x hx => ?_, hN.1.2.2.2.2.2.2.2.2⟩, hN.2⟩, hI, hA, hB, hC, hD, hEe, hF, hG, h9.1.2.2.2.2.2.2.2.2.2.2.1, hIi, hJ, hK, hL⟩, hO⟩
      · show rg κ.1 18 (nI k) = rg σ 18 (nI k)
        unfold rg
        rw [hE.1 18 rfl]
      · exact hE.cp 18 _ r rfl
      · show 1 ≤ (upd (σ.2.1 18) (nI k).toNatClampNeg r x).toInt ∧ (upd (σ.2.1 18) (nI k).toNatClampNeg r x).toInt ≤ 5
        rw [ck]
        by_cases e : x = k
        · rw [e, upd_at]
          exact hr
        · rw [upd_ne e]
          exact hN.1.2.2.2.2.2.2.2.1 x hx
    · rw [if_neg h13, if_neg h13]
      exact ⟨rfl, h.up⟩
theorem s_open {c : Int} {nf nj nm : Nat} {σ : rS} {κ : cS} (h : S c nf nj nm σ κ) {f b : Int32} : (f_open κ.1 f b).1 = (f_open σ f b).1 ∧ S (c + 1) nf nj nm (f_open σ f b).2 ((f_open κ.1 f b).2, κ.2) := by
  unfold f_open
  rw [h.1.1.isF, show rg κ.1 3 f = rg σ 3 f by unfold rg; rw [h.1.1.1 3 rfl]]
  cases hq : q_isF σ f with
  | false => exact ⟨rfl, h.up⟩
  | true =>
    rw [if_pos rfl, if_pos rfl]
    have h9 := h.up
    have key : S (c + 1) nf nj nm (rpz σ 3 f b) (rpz κ.1 3 f b, κ.2) := by
      obtain ⟨⟨hE, hN, hI, hA, hB, hC, hD, hEe, hF, hG, hH, hIi, hJ, hK, hL⟩, hO⟩ := h
      exact ⟨⟨hE.cp 3 _ _ rfl, hN, hI, hA, hB, hC, hD, hEe, hF, hG, h9.1.2.2.2.2.2.2.2.2.2.2.1, hIi, hJ, hK, hL⟩, hO⟩
    by_cases h3 : rg σ 3 f = 0
    · rw [if_pos h3, if_pos h3]
      exact ⟨rfl, key⟩
    · rw [if_neg h3, if_neg h3]
      exact ⟨rfl, key⟩
theorem s_drought {c : Int} {nf nj nm : Nat} {σ : rS} {κ : cS} (h : S c nf nj nm σ κ) {p : Int32} : (f_drought κ.1 p).1 = (f_drought σ p).1 ∧ S (c + 1) nf nj nm (f_drought σ p).2 ((f_drought κ.1 p).2, κ.2) := by
  unfold f_drought
  cases hq : q_in p 0 100 with
  | false => exact ⟨rfl, h.up⟩
  | true =>
    have hr := q_in_iff.mp hq
    rw [t_0, show (100 : Int32).toInt = 100 by decide] at hr
    have h9 := h.up
    obtain ⟨⟨hE, hN, hI, hA, hB, hC, hD, hEe, hF, hG, hH, hIi, hJ, hK, hL⟩, hO⟩ := h
    exact ⟨hE.2.1 27 rfl, ⟨hE.sc 27 p, hN, hI, hA, hr, hC, hD, hEe, hF, hG, h9.1.2.2.2.2.2.2.2.2.2.2.1, hIi, hJ, hK, hL⟩, hO⟩
theorem s_fare {c : Int} {nf nj nm : Nat} {σ : rS} {κ : cS} (h : S c nf nj nm σ κ) {f : Int32} : f_fare κ.1 f = f_fare σ f := by
  unfold f_fare
  cases hq : q_in f 0 9 with
  | false => rfl
  | true =>
    rw [if_pos rfl, if_pos rfl]
    obtain ⟨k, hk, rfl⟩ := in_nat (b := 9) hq (by decide) (by decide) (by decide)
    unfold rg
    rw [nI_cl (by omega)]
    exact (h.1.2.2.2.2.2.2.2.2.2.2.2.2.1 k (by omega)).1
theorem s_given {c : Int} {nf nj nm : Nat} {σ : rS} {κ : cS} (h : S c nf nj nm σ κ) {m : Int32} : f_given κ.1 m = f_given σ m := by
  unfold f_given
  rw [h.1.1.isM]
  cases hq : q_isM σ m with
  | false => rfl
  | true =>
    rw [if_pos rfl, if_pos rfl]
    obtain ⟨k, hk, rfl⟩ := h.nM hq
    have hb := h.1.2.2.1.1
    unfold rg
    rw [nI_cl (by omega)]
    exact (h.1.2.2.2.2.2.2.2.2.2.2.2.2.1 k (by omega)).2
theorem s_sum {c : Int} {nf nj nm : Nat} {σ : rS} {κ : cS} (h : S c nf nj nm σ κ) {w : Int32} : f_sum κ.1 w = f_sum σ w := by
  unfold f_sum
  rw [h.1.1.2.1 28 rfl, h.1.1.2.2]
theorem s_water {c : Int} {nf nj nm : Nat} {σ : rS} {κ : cS} (h : S c nf nj nm σ κ) {i w : Int32} : f_water κ.1 i w = f_water σ i w := by
  unfold f_water rg
  rw [h.1.1.isF, h.1.1.isJ, h.1.1.1 2 rfl, h.1.1.1 4 rfl, h.1.1.1 9 rfl, h.1.1.1 11 rfl]
theorem s_count {c : Int} {nf nj nm : Nat} {σ : rS} {κ : cS} (h : S c nf nj nm σ κ) {w : Int32} : f_count κ.1 w = f_count σ w := by
  have key : lp (k_cnt κ.1 w) 0 (κ.1.1 12).toNatClampNeg 0 = lp (k_cnt σ w) 0 (σ.1 12).toNatClampNeg 0 := by
    have e : k_cnt κ.1 w = k_cnt σ w := by
      funext i s
      unfold k_cnt rg
      rw [h.1.1.1 19 rfl]
    rw [e, h.1.1.2.1 12 rfl]
  unfold f_count
  rw [key, h.1.1.2.1 0 rfl, h.1.1.2.1 5 rfl, h.1.1.2.1 12 rfl, h.1.1.2.1 35 rfl]
theorem s_told {c : Int} {nf nj nm : Nat} {σ : rS} {κ : cS} (h : S c nf nj nm σ κ) {m w : Int32} {k : Nat} (hk : k < nm) (e : m = nI k) : g_told κ k w = f_told σ m w := by
  subst e
  have hM : q_isM σ (nI k) = true := by
    rcases at_M h.1.2.2.1.z (fun i => i) (nI k) with ⟨e1, e2⟩ | ⟨-, -, -, -, e2⟩
    · have hb := h.1.2.2.1.1
      rw [q_at_in (k := k) (x := k) (by simp [hk]) (by simp; omega)] at e1
      cases e1
    · rw [← h.1.1.isM]; exact e2
  obtain ⟨kd, fi, ji, hkd, hf, hj, e13, e15, e16⟩ := h.1.kd hk
  obtain ⟨w1, w2, -⟩ := way_eq h.1 hk hj
  have hb := h.1.2.2.1.1
  have ck := nI_cl (n := k) (by omega)
  have cf := nI_cl (n := fi) (by omega)
  have cj := nI_cl (n := ji) (by omega)
  have hE := h.1.1
  have hF := h.1.2.2.2.2.2.2.2.2.1
  unfold f_told g_told
  rw [hM, if_pos rfl]
  have r19 : rg σ 19 (nI k) = σ.2.1 19 k := by unfold rg; rw [ck]
  have r16 : rg σ 16 (nI k) = nI ji := by unfold rg; rw [ck, e16]
  have e1 : (if κ.1.2.1 19 k = 0 then q_ct κ k (κ.2.1 (κ.1.2.1 15 k).toNatClampNeg) 0 true else κ.1.2.1 20 k) = (if rg σ 19 (nI k) = 0 then lp (k_ah σ (nI k)) 0 (σ.1 12).toNatClampNeg 0 else rg σ 20 (nI k)) := by
    rw [r19, hE.1 19 rfl]
    by_cases q : σ.2.1 19 k = 0
    · rw [if_pos q, if_pos q, hE.1 15 rfl, e15, cf]
      exact ahead_eq h.1 hk hf e15 q
    · rw [if_neg q, if_neg q]
      unfold rg
      rw [ck]
      exact (hF k hk (by omega) q).1
  rw [e1, r16, w1, w2, hE.1 16 rfl, e16, cj, hE.1 19 rfl, hE.1 21 rfl, hE.1 22 rfl, hE.1 15 rfl, hE.1 13 rfl]
  unfold rg
  rw [ck]
theorem s_run {c : Int} {nf nj nm : Nat} {σ : rS} {κ : cS} (h : S c nf nj nm σ κ) (hc : c ≤ 1000) {n : Int32} : (g_run nf nj nm κ n).1 = (f_run σ n).1 ∧ S (c + 1) nf nj nm (f_run σ n).2 (g_run nf nj nm κ n).2 := by
  unfold g_run f_run
  rw [h.1.1.2.1 28 rfl]
  cases hq : q_in n 1 500 with
  | false => exact ⟨rfl, h.up⟩
  | true =>
    rw [if_pos rfl, if_pos rfl]
    obtain ⟨N, hN5, rfl⟩ := in_nat (b := 500) hq (by decide) (by decide) (by decide)
    rw [nI_cl (n := N) (by omega)]
    by_cases ht : σ.1 28 + nI N ≤ 20000
    · rw [if_pos ht, if_pos ht]
      have htC := h.1.2.2.2.2.2.1
      unfold tC at htC
      rw [Int32.le_iff_toInt_le, fb_addI (by rw [nI_toInt (by omega)]; omega) (by rw [nI_toInt (by omega)]; omega), nI_toInt (by omega), show (20000 : Int32).toInt = 20000 by decide] at ht
      have key : Cx nf nj nm 100 (10 * ((lp k_min 0 N σ).1 28).toInt + c) (lp k_min 0 N σ) (lp (k_cmin nf nj nm) 0 N κ) ∧ tO nm (lp k_min 0 N σ) (lp (k_cmin nf nj nm) 0 N κ) ∧ ((lp k_min 0 N σ).1 28).toInt = (σ.1 28).toInt + ((0 + N : Nat) : Int) := by
        refine lpp (fun i s t => Cx nf nj nm 100 (10 * (s.1 28).toInt + c) s t ∧ tO nm s t ∧ (s.1 28).toInt = (σ.1 28).toInt + (i : Int)) N 0 σ κ ⟨h.1, h.2, by omega⟩ (fun j s t _ h2 h3 => ?_)
        obtain ⟨a1, a2, a3⟩ := h3
        have hm := Cx_minute a1 a2 (by omega) (by omega)
        have e1 : ((f_minute s).1 28).toInt = (s.1 28).toInt + 1 := by
          rw [hm.2.2, fb_addI (by rw [t_1]; omega) (by rw [t_1]; omega), t_1]
        refine ⟨?_, hm.2.1, ?_⟩
        · show Cx nf nj nm 100 (10 * ((f_minute s).1 28).toInt + c) (f_minute s) (n_1 nf nj nm t)
          rw [e1]
          exact hm.1.wB (by omega)
        · show ((f_minute s).1 28).toInt = _
          rw [e1, a3]
          omega
      refine ⟨key.1.1.2.1 28 rfl, key.1.wB (B2 := 10 * ((lp k_min 0 N σ).1 28).toInt + (c + 1)) (by omega), key.2.1⟩
    · rw [if_neg ht, if_neg ht]
      exact ⟨rfl, h.up⟩
theorem Cx_zero {nf nj nm e0 : Nat} {B : Int} {σ : rS} {κ : cS} (h : Cx nf nj nm e0 B σ κ) {m : Nat} (hm : m < nm) : Cx nf nj nm e0 B (rp σ 21 (nI m) 0) (cp κ 21 m 0) := by
  obtain ⟨hE, hN, hI, hA, hB, hC, hD, hEe, hF, hG, hH, hIi, hJ, hK, hL⟩ := h
  have hb := hI.1
  have cm := nI_cl (n := m) (by omega)
  have e1 : rp σ 21 (nI m) 0 = ra σ 21 (upd (σ.2.1 21) m 0) := by unfold rp; rw [cm]
  rw [e1]
  refine ⟨hE.cp 21 m 0 rfl, hN, hI, hA, hB, hC, hD, fun x hx => ⟨(hEe x hx).1, ?_⟩, hF, fun x hx h0 => ?_, hH, hIi, hJ, hK, fun x hx hx2 => ?_, hL.2⟩
  · show 0 ≤ (upd (σ.2.1 21) m 0 x).toInt ∧ (upd (σ.2.1 21) m 0 x).toInt ≤ (σ.2.1 14 x).toInt
    have := hEe x hx
    by_cases e : x = m
    · rw [e, upd_at, t_0]
      rw [e] at this
      omega
    · rw [upd_ne e]
      exact this.2
  · have h8 : 0 < (upd (σ.2.1 21) m 0 x).toInt := h0
    by_cases e : x = m
    · rw [e, upd_at, t_0] at h8
      omega
    · rw [upd_ne e] at h8
      exact hG x hx h8
  · have h8 := hL.1 x hx hx2
    refine ⟨h8.1, h8.2.1, ?_, h8.2.2.2⟩
    show upd (σ.2.1 21) m 0 x = 0
    rw [upd_ne (by omega)]
    exact h8.2.2.1
theorem s_fire {c : Int} {nf nj nm : Nat} {σ : rS} {κ : cS} (h : S c nf nj nm σ κ) {j w : Int32} : (g_fire κ nm j w).1 = (f_fire σ j w).1 ∧ S (c + 1) nf nj nm (f_fire σ j w).2 (g_fire κ nm j w).2 := by
  unfold g_fire f_fire
  rw [h.1.1.isJ]
  cases hq : (q_isJ σ j && q_in w 0 60) with
  | false => exact ⟨rfl, h.up⟩
  | true =>
    rw [if_pos rfl, if_pos rfl]
    have hb := h.1.2.2.1.1
    have key : (q_fire σ j w).1 = (q_cfire κ nm j w).1 ∧ Cx nf nj nm 100 (10 * (σ.1 28).toInt + c) (q_fire σ j w).2 (q_cfire κ nm j w).2 ∧ tO nm (q_fire σ j w).2 (q_cfire κ nm j w).2 ∧ (q_fire σ j w).2.1 28 = σ.1 28 := by
      unfold q_fire q_cfire
      rw [h.1.2.1.2.2.2.1, nI_cl (by omega)]
      refine lpp (fun _ (s : Int32 × rS) (t : Int32 × cS) => s.1 = t.1 ∧ Cx nf nj nm 100 (10 * (σ.1 28).toInt + c) s.2 t.2 ∧ tO nm s.2 t.2 ∧ s.2.1 28 = σ.1 28) nm 0 (0, σ) (0, κ) ⟨rfl, h.1, h.2, rfl⟩ (fun i s t _ h2 h3 => ?_)
      obtain ⟨a0, a1, a2, a3⟩ := h3
      have hi : i < nm := by omega
      have ci := nI_cl (n := i) (by omega)
      have hE := a1.1
      unfold k_fire k_cfire
      have hcond : ((t.2.1.2.1 19 i = 1 ∧ t.2.1.2.1 16 i = j) ∧ ¬ w < t.2.1.2.1 20 i) ↔ ((decide (rg s.2 19 (nI i) = 1) && decide (rg s.2 16 (nI i) = j)) && !decide (w < rg s.2 20 (nI i))) = true := by
        unfold rg
        rw [ci, hE.1 19 rfl, hE.1 16 rfl]
        simp only [Bool.and_eq_true, decide_eq_true_eq, Bool.not_eq_true', decide_eq_false_iff_not]
        constructor
        · rintro ⟨⟨p1, p2⟩, p3⟩
          have := (a1.2.2.2.2.2.2.2.2.1 i hi (by omega) (by rw [p1]; decide)).1
          rw [this] at p3
          exact ⟨⟨p1, p2⟩, p3⟩
        · rintro ⟨⟨p1, p2⟩, p3⟩
          have := (a1.2.2.2.2.2.2.2.2.1 i hi (by omega) (by rw [p1]; decide)).1
          rw [← this] at p3
          exact ⟨⟨p1, p2⟩, p3⟩
      by_cases hc9 : ((decide (rg s.2 19 (nI i) = 1) && decide (rg s.2 16 (nI i) = j)) && !decide (w < rg s.2 20 (nI i))) = true
      · rw [if_pos hc9, if_pos (hcond.mpr hc9)]
        have h19 : s.2.2.1 19 i = 1 := by
          have := (hcond.mpr hc9).1.1
          rw [hE.1 19 rfl] at this
          exact this
        have hz := Cx_zero a1 hi
        refine ⟨?_, Cx_down hz.we hi (by show ¬ s.2.2.1 19 i = 0; rw [h19]; decide), a2, a3⟩
        show s.1 + rg s.2 21 (nI i) = t.1 + t.2.1.2.1 21 i
        unfold rg
        rw [a0, ci, hE.1 21 rfl]
      · rw [if_neg hc9, if_neg (fun q => hc9 (hcond.mp q))]
        exact ⟨a0, a1, a2, a3⟩
    obtain ⟨k0, k1, k2, k3⟩ := key
    generalize q_fire σ j w = s at *
    generalize q_cfire κ nm j w = t at *
    refine ⟨k0.symm, ?_, k2⟩
    have hE := k1.1
    show Cx nf nj nm 100 (10 * (s.2.1 28).toInt + (c + 1)) (rl s.2 5 (s.2.2.2 5 + s.1.toInt64)) (cl t.2 5 (t.2.1.2.2 5 + t.1.toInt64))
    rw [k3, hE.2.2, ← k0]
    obtain ⟨a1, a2, a3, a4, a5, a6, a7, a8, a9, a10, a11, a12, a13, a14, a15⟩ := k1.wB (B2 := 10 * (σ.1 28).toInt + (c + 1)) (by omega)
    exact ⟨a1.su 5 _, a2, a3, a4, a5, a6, a7, a8, a9, a10, a11, a12, a13, a14, a15⟩
