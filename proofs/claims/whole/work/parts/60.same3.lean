/-! ===== the same answers, 3 ===== -/
def agr (R Q : Nat → Int32) : Prop := ∀ x, x < 10 → R x = Q x
theorem agr_put {v : Int32} : ∀ (n i : Nat) (R Q : Nat → Int32), agr R Q → agr (lp (k_put v) i n R) (lp (k_put v) i n Q)
  | 0, i, R, Q, h => h
  | n + 1, i, R, Q, h => by
    rw [lp, lp]
    refine agr_put n (i + 1) _ _ (fun x hx => ?_)
    unfold k_put upd
    split
    · rfl
    · exact h x hx
def agr3 (a b : Bool × Nat × (Nat → Int32)) : Prop := a.1 = b.1 ∧ a.2.1 = b.2.1 ∧ agr a.2.2 b.2.2
theorem tail_rel {T : Nat → Int32} {n p : Nat} {lo hi : Int32} {R Q : Nat → Int32} (h : agr R Q) : agr3 (q_tail T n lo hi p R) (q_tail T n lo hi p Q) := by
  unfold q_tail
  split
  · split
    · exact ⟨rfl, rfl, agr_put _ _ _ _ h⟩
    · exact ⟨rfl, rfl, h⟩
  · exact ⟨rfl, rfl, h⟩
theorem clause_rel {T : Nat → Int32} {n p : Nat} {R Q : Nat → Int32} (h : agr R Q) : agr3 (q_clause T n p R) (q_clause T n p Q) := by
  unfold q_clause
  split
  · unfold q_clause2
    split
    · split
      · exact tail_rel h
      · exact ⟨rfl, rfl, h⟩
    · exact tail_rel h
  · exact ⟨rfl, rfl, h⟩
theorem rf_rel {T : Nat → Int32} {n : Nat} : ∀ (k c p : Nat) (R Q : Nat → Int32), agr R Q → (q_rf T n k c p R).1 = (q_rf T n k c p Q).1 ∧ (q_rf T n k c p R).2.1 = (q_rf T n k c p Q).2.1 ∧ agr (q_rf T n k c p R).2.2 (q_rf T n k c p Q).2.2
  | 0, c, p, R, Q, h => ⟨rfl, rfl, h⟩
  | k + 1, c, p, R, Q, h => by
    obtain ⟨h1, h2, h3⟩ := clause_rel (T := T) (n := n) (p := p) h
    rw [q_rf, q_rf, h1, h2]
    split
    · split
      · exact ⟨rfl, rfl, h3⟩
      · split
        · exact ⟨rfl, rfl, h3⟩
        · exact rf_rel k (c + 1) _ _ _ h3
    · exact ⟨rfl, rfl, h3⟩
theorem put_all {v : Int32} {R : Nat → Int32} : ∀ (n i : Nat) (R : Nat → Int32) (x : Nat), (i ≤ x ∧ x < i + n → lp (k_put v) i n R x = v) ∧ (x < i → lp (k_put v) i n R x = R x)
  | 0, i, R, x => ⟨fun h => absurd h.2 (by omega), fun _ => rfl⟩
  | n + 1, i, R, x => by
    rw [lp]
    obtain ⟨h1, h2⟩ := put_all (R := R) n (i + 1) (k_put v i R) x
    refine ⟨fun h => ?_, fun h => ?_⟩
    · by_cases e : x = i
      · rw [h2 (by omega), e]
        unfold k_put
        rw [upd_at]
      · exact h1 (by omega)
    · rw [h2 (by omega)]
      unfold k_put
      rw [upd_ne (by omega)]
theorem cp_all {R : Nat → Int32} : ∀ (n i : Nat) (q : Nat → Int32) (x : Nat), (i ≤ x ∧ x < i + n → lp (k_cp R) i n q x = R x) ∧ (x < i → lp (k_cp R) i n q x = q x)
  | 0, i, q, x => ⟨fun h => absurd h.2 (by omega), fun _ => rfl⟩
  | n + 1, i, q, x => by
    rw [lp]
    obtain ⟨h1, h2⟩ := cp_all n (i + 1) (k_cp R i q) x
    refine ⟨fun h => ?_, fun h => ?_⟩
    · by_cases e : x = i
      · rw [h2 (by omega), e]
        unfold k_cp
        rw [upd_at]
      · exact h1 (by omega)
    · rw [h2 (by omega)]
      unfold k_cp
      rw [upd_ne (by omega)]
theorem s_fares {c : Int} {nf nj nm : Nat} {σ : rS} {κ : cS} (h : S c nf nj nm σ κ) : (g_fares κ).1 = (f_fares σ).1 ∧ S (c + 1) nf nj nm (f_fares σ).2 (g_fares κ).2 := by
  unfold g_fares f_fares
  rw [h.1.1.2.1 31 rfl]
  have hrel := rf_rel (T := σ.2.1 30) (n := (σ.1 31).toNatClampNeg) 5 0 0 (q_R0 κ.1) (q_R0 σ) (fun x hx => by
    unfold q_R0
    rw [(put_all (R := σ.2.1 34) 10 0 (κ.1.2.1 34) x).1 (by omega), (put_all (R := σ.2.1 34) 10 0 (σ.2.1 34) x).1 (by omega)])
  have e1 : q_rfs κ.1 (σ.1 31).toNatClampNeg = q_rf (σ.2.1 30) (σ.1 31).toNatClampNeg 5 0 0 (q_R0 κ.1) := by
    unfold q_rfs
    rw [h.1.1.1 30 rfl]
  have e2 : q_rfs σ (σ.1 31).toNatClampNeg = q_rf (σ.2.1 30) (σ.1 31).toNatClampNeg 5 0 0 (q_R0 σ) := rfl
  rw [e1, e2]
  generalize q_rf (σ.2.1 30) (σ.1 31).toNatClampNeg 5 0 0 (q_R0 κ.1) = rk at *
  generalize q_rf (σ.2.1 30) (σ.1 31).toNatClampNeg 5 0 0 (q_R0 σ) = rr at *
  obtain ⟨a, p, R⟩ := rk
  obtain ⟨a2, p2, R2⟩ := rr
  obtain ⟨r1, r2, r3⟩ := hrel
  dsimp only at r1 r2 r3
  subst r1
  subst r2
  unfold g_fares2 f_fares2
  dsimp only
  have h9 := h.up
  obtain ⟨⟨hE, hN, hI, hA, hB, hC, hD, hEe, hF, hG, hH, hIi, hJ, hK, hL⟩, hO⟩ := h
  have hN9 : ∀ τ : rS, (τ.1 0 = σ.1 0 ∧ τ.1 5 = σ.1 5 ∧ τ.1 12 = σ.1 12 ∧ τ.1 31 = 0 ∧ τ.1 35 = σ.1 35 ∧ τ.2.1 15 = σ.2.1 15 ∧ τ.2.1 16 = σ.2.1 16 ∧ τ.2.1 18 = σ.2.1 18 ∧ τ.2.1 6 = σ.2.1 6) → rN nf nj nm τ := by
    rintro τ ⟨q0, q5, q12, q31, q35, r15, r16, r18, r6⟩
    obtain ⟨⟨b1, b2, b3, b4, b5, b6, b7, b8, b9⟩, b10⟩ := hN
    unfold rN rI
    rw [q0, q5, q12, q31, q35, r15, r16, r18, r6]
    exact ⟨⟨b1, b2, b3, by rw [t_0]; omega, b5, b6, b7, b8, b9⟩, b10⟩
  by_cases ha : 0 ≤ a
  · rw [if_pos ha, if_pos ha]
    refine ⟨rfl, ⟨?_, hN9 _ ⟨rfl, rfl, rfl, rfl, rfl, rfl, rfl, rfl, rfl⟩, ⟨hI.1, hI.2.1, hI.2.2.1, hI.2.2.2.1, hI.2.2.2.2.1, ⟨0, by omega, rfl⟩, hI.2.2.2.2.2.2⟩, hA, hB, hC, hD, hEe, hF, hG, h9.1.2.2.2.2.2.2.2.2.2.2.1, hIi, fun k hk => ?_, ?_, hL⟩, hO⟩
    · have e1 := ((((((hE.scl 32 (nI p) rfl).scr 32 (nI p) rfl).l 34 R2 rfl).r 34 R rfl).r 33 R rfl).r 34 (κ.1.2.1 33) rfl)
      have e2 := (e1.sc 31 0).l 33 (lp (k_cp R2) 0 10 (σ.2.1 33)) rfl
      exact e2
    · refine ⟨?_, (hJ k hk).2⟩
      show R k = lp (k_cp R2) 0 10 (σ.2.1 33) k
      rw [(cp_all (R := R2) 10 0 (σ.2.1 33) k).1 (by omega)]
      exact r3 k hk
    · intro q hq
      exact absurd (show q < (0 : Int32).toNatClampNeg from hq) (by simp)
  · rw [if_neg ha, if_neg ha]
    refine ⟨rfl, ⟨?_, hN9 _ ⟨rfl, rfl, rfl, rfl, rfl, rfl, rfl, rfl, rfl⟩, ⟨hI.1, hI.2.1, hI.2.2.1, hI.2.2.2.1, hI.2.2.2.2.1, ⟨0, by omega, rfl⟩, hI.2.2.2.2.2.2⟩, hA, hB, hC, hD, hEe, hF, hG, h9.1.2.2.2.2.2.2.2.2.2.2.1, hIi, hJ, ?_, hL⟩, hO⟩
    · exact ((((hE.scl 32 (nI p) rfl).scr 32 (nI p) rfl).l 34 R2 rfl).r 34 R rfl).sc 31 0
    · intro q hq
      exact absurd (show q < (0 : Int32).toNatClampNeg from hq) (by simp)
theorem succ1 {n : Nat} : nI n + 1 - 1 = nI n := by
  rw [show nI n + 1 = nI (n + 1) from nI_1 n]
  exact nI_pred n
theorem s_fountain {c : Int} {nf nj nm : Nat} {σ : rS} {κ : cS} (h : S c nf nj nm σ κ) {w : Int32} : (g_fountain nf nj κ w).1 = (f_fountain σ w).1 ∧ S (c + 1) (g_fountain nf nj κ w).2.1 nj nm (f_fountain σ w).2 (g_fountain nf nj κ w).2.2 := by
  unfold g_fountain f_fountain
  have hb := h.1.2.2.1.1
  rw [h.1.2.1.2.1, h.1.2.1.2.2.1]
  cases hq : q_in w 1 20 with
  | false => exact ⟨rfl, h.up⟩
  | true =>
    rw [if_pos rfl, if_pos rfl]
    by_cases hj : nj = 0
    · rw [if_pos hj, if_pos (show nI nj ≤ 0 by rw [hj]; decide)]
      by_cases hf : nf < 4
      · rw [if_pos hf, if_neg (show ¬ nI nf = 4 from fun e => by have := (nI_eq_iff (a := nf) (b := 4) (by omega) (by omega)).mp e; omega)]
        refine ⟨succ1.symm, ?_⟩
        have hr := q_in_iff.mp hq
        rw [t_1, show (20 : Int32).toInt = 20 by decide] at hr
        have h9 := h.up
        obtain ⟨⟨hE, hN, hI, hA, hB, hC, hD, hEe, hF, hG, hH, hIi, hJ, hK, hL⟩, hO⟩ := h
        have hm0 : nm = 0 := by
          by_cases q : nm = 0
          · exact q
          · obtain ⟨x, hx, -⟩ := hI.2.2.2.1 0 (by omega)
            omega
        subst hm0
        subst hj
        have cn := nI_cl (n := nf) (by omega)
        have hz := hL.2.1 nf (Nat.le_refl _) hf
        have e1 : rs (rpz (rp σ 1 (nI nf) w) 3 (nI nf) 1) 0 (nI nf + 1) = rs (ra (ra σ 1 (upd (σ.2.1 1) nf w)) 3 (upd (σ.2.1 3) nf 1)) 0 (nI (nf + 1)) := by
          unfold rpz rp
          rw [cn, show nI nf + 1 = nI (nf + 1) from nI_1 nf]
          rfl
        rw [e1]
        refine ⟨⟨⟨fun k hk => ?_, fun k hk => ?_, hE.2.2⟩, ⟨⟨?_, hN.1.2.1, hN.1.2.2.1, hN.1.2.2.2⟩, rfl, hN.2.2.1, hN.2.2.2.1, by show nf + 1 ≤ 4; omega, hN.2.2.2.2.2⟩, ⟨by show nf + 1 ≤ 4 ∧ _ ∧ _; omega, ⟨rfl, hI.2.1.2⟩, fun m hm => absurd hm (by omega), fun m hm => absurd hm (by omega), fun m hm => absurd hm (by omega), hI.2.2.2.2.2.1, hI.2.2.2.2.2.2.1, hI.2.2.2.2.2.2.2.1, fun m hm => absurd hm (by omega), fun i hi => ?_⟩, fun i hi => ?_, hB, hC, fun j hj => absurd hj (by omega), hEe, hF, hG, ⟨fun i hi => ?_, fun m hm => absurd hm (by omega), fun m hm => absurd hm (by omega), h9.1.2.2.2.2.2.2.2.2.2.2.1.2.2.2⟩, hIi, hJ, hK, hL.1, fun i hi hi2 => ?_, hL.2.2⟩, hO⟩
        · show (if k = 4 then upd (κ.1.2.1 4) nf 0 else if k = 2 then upd (κ.1.2.1 2) nf 0 else if k = 3 then upd (κ.1.2.1 3) nf 1 else if k = 1 then upd (κ.1.2.1 1) nf w else κ.1.2.1 k) = (if k = 3 then upd (σ.2.1 3) nf 1 else if k = 1 then upd (σ.2.1 1) nf w else σ.2.1 k)
          by_cases k4 : k = 4
          · subst k4
            rw [if_pos rfl, if_neg (by decide), if_neg (by decide), hE.1 4 rfl]
            conv => lhs; rw [← hz.2]
            exact upd_id
          · by_cases k2 : k = 2
            · subst k2
              rw [if_neg (by decide), if_pos rfl, if_neg (by decide), if_neg (by decide), hE.1 2 rfl]
              conv => lhs; rw [← hz.1]
              exact upd_id
            · rw [if_neg k4, if_neg k2, hE.1 3 rfl, hE.1 1 rfl, hE.1 k hk]
        · show upd κ.1.1 0 (nI (nf + 1)) k = upd σ.1 0 (nI (nf + 1)) k
          unfold upd
          rw [hE.2.1 k hk]
        · show 0 ≤ (nI (nf + 1)).toInt ∧ (nI (nf + 1)).toInt ≤ 4
          rw [nI_toInt (by omega)]
          omega
        · show (if i = nf then [] else κ.2.1 i).Nodup ∧ ∀ m ∈ (if i = nf then [] else κ.2.1 i), _
          by_cases e : i = nf
          · rw [if_pos e]
            exact ⟨List.nodup_nil, fun m hm => absurd hm (by simp)⟩
          · rw [if_neg e]
            exact hI.V i (by have hi9 : i < nf + 1 := hi; omega)
        · show (1 ≤ (upd (σ.2.1 1) nf w i).toInt ∧ (upd (σ.2.1 1) nf w i).toInt ≤ 20) ∧ (0 ≤ (σ.2.1 2 i).toInt ∧ (σ.2.1 2 i).toInt ≤ 300)
          by_cases e : i = nf
          · rw [e, upd_at, hz.1, t_0]
            omega
          · rw [upd_ne e]
            exact hA i (by have hi9 : i < nf + 1 := hi; omega)
        · show (if i = nf then [] else κ.2.1 i).Pairwise _
          by_cases e : i = nf
          · rw [if_pos e]
            exact List.Pairwise.nil
          · rw [if_neg e]
            exact hH.1 i (by have hi9 : i < nf + 1 := hi; omega)
        · exact hL.2.1 i (by have hi9 : nf + 1 ≤ i := hi; omega) hi2
      · rw [if_neg hf, if_pos (show nI nf = 4 by rw [show nf = 4 by omega]; rfl)]
        exact ⟨rfl, h.up⟩
    · rw [if_neg hj, if_neg (show ¬ nI nj ≤ 0 by rw [show (0 : Int32) = nI 0 from rfl, nI_le_iff (by omega) (by omega)]; omega)]
      exact ⟨rfl, h.up⟩
