/-! ===== pour, fill, walk: the states stay together ===== -/
theorem pv_eq {nf nj nm e0 : Nat} {B : Int} {σ : rS} {κ : cS} (h : Cx nf nj nm e0 B σ κ) {m : Nat} (hm : m < nm) : q_pvC κ m = q_pv σ (nI m) := by
  obtain ⟨k, fi, ji, hk, hf, hj, e13, e15, e16⟩ := h.kd hm
  have hb := h.2.2.1.1
  have cm := nI_cl (n := m) (by omega)
  have cj := nI_cl (n := ji) (by omega)
  unfold q_pvC q_pv rg
  rw [cm, e16, cj, q_min_least, h.1.1 16 rfl, e16, cj, h.1.1 21 rfl, h.1.1 7 rfl, h.1.1 9 rfl]
theorem Cx_pour1 {nf nj nm e0 : Nat} {B : Int} {σ : rS} {κ : cS} (h : Cx nf nj nm e0 B σ κ) {m : Nat} (hm : m < nm) (hv : ¬ q_pv σ (nI m) ≤ 0) : Cx nf nj nm e0 B (f_pour1 σ (nI m) (rg σ 16 (nI m)) (q_pv σ (nI m))) (g_pour1 κ m) := by
  have hN9 : rN nf nj nm (f_pour1 σ (nI m) (rg σ 16 (nI m)) (q_pv σ (nI m))) := rK_pour1.N h.2.1
  have hI9 : cI nf nj nm (g_pour1 κ m) := h.2.2.1
  have epv := pv_eq h hm
  obtain ⟨k, fi, ji, hk, hf, hj, e13, e15, e16⟩ := h.kd hm
  obtain ⟨hE, hN, hI, hA, hB, hC, hD, hEe, hF, hG, hH, hIi, hJ, hK, hL⟩ := h
  have hb := hI.1
  have cm := nI_cl (n := m) (by omega)
  have cj := nI_cl (n := ji) (by omega)
  obtain ⟨fl, -, hfl, efl⟩ := nat_of (a := 0) (b := 9) (hN.1.2.2.2.2.2.2.2.2 ji (by omega)).1 (hN.1.2.2.2.2.2.2.2.2 ji (by omega)).2 (by omega)
  have epe : q_peC κ m = q_pv σ (nI m) * σ.2.1 33 fl := by
    unfold q_peC
    rw [epv, hE.1 16 rfl, e16, cj, hE.1 6 rfl, efl, q_or, if_pos ⟨nI_pos (by omega), nI_lt (by omega) (by omega)⟩, nI_cl (by omega), (hJ fl (by omega)).1]
  generalize hvv : q_pv σ (nI m) = v at *
  have hvr : 0 < v.toInt ∧ v.toInt ≤ (σ.2.1 21 m).toInt := by
    rw [Int32.le_iff_toInt_le, t_0] at hv
    refine ⟨by omega, ?_⟩
    rw [← hvv]
    unfold q_pv rg
    rw [least_int, cm]
    omega
  have e1 : f_pour1 σ (nI m) (rg σ 16 (nI m)) v = rj (rj (ra (ra (ra σ 9 (upd (σ.2.1 9) ji (σ.2.1 9 ji + v))) 21 (upd (σ.2.1 21) m (σ.2.1 21 m - v))) 22 (upd (σ.2.1 22) m (σ.2.1 22 m + v * σ.2.1 33 fl))) (vp_updL σ.2.2 3 (σ.2.2 3 + v.toInt64))) (vp_updL (vp_updL σ.2.2 3 (σ.2.2 3 + v.toInt64)) 6 (σ.2.2 6 + (v * σ.2.1 33 fl).toInt64)) := by
    have h33 : rg σ 33 (rg σ 6 (nI ji)) = σ.2.1 33 fl := by
      unfold rg
      rw [cj, efl, nI_cl (by omega)]
    rw [show rg σ 16 (nI m) = nI ji by rw [rg, cm, e16]]
    unfold f_pour1
    rw [h33]
    unfold rl rp rg
    rw [cm, cj, ra_cm (a := 21) (b := 9) (by decide)]
    rfl
  have e2 : g_pour1 κ m = cl (cl (cp (cp (cp κ 9 ji (σ.2.1 9 ji + v)) 21 m (σ.2.1 21 m - v)) 22 m (σ.2.1 22 m + v * σ.2.1 33 fl)) 3 (σ.2.2 3 + v.toInt64)) 6 (σ.2.2 6 + (v * σ.2.1 33 fl).toInt64) := by
    unfold g_pour1
    rw [epe, epv, hE.1 16 rfl, e16, cj, hE.1 9 rfl, hE.1 21 rfl, hE.1 22 rfl, hE.2.2]
  rw [e1] at hN9 ⊢
  rw [e2] at hI9 ⊢
  have t21 : (σ.2.1 21 m - v).toInt = (σ.2.1 21 m).toInt - v.toInt := by
    have := hEe m hm
    rw [fb_subI (by omega) (by omega)]
  refine ⟨((((hE.cp 9 ji _ rfl).cp 21 m _ rfl).cp 22 m _ rfl).su 3 _).su 6 _, hN9, hI9, hA, hB, hC, hD, ?_, hF, ?_, hH, hIi, hJ, hK, ?_⟩
  · intro x hx
    refine ⟨(hEe x hx).1, ?_⟩
    show 0 ≤ (upd (σ.2.1 21) m (σ.2.1 21 m - v) x).toInt ∧ (upd (σ.2.1 21) m (σ.2.1 21 m - v) x).toInt ≤ (σ.2.1 14 x).toInt
    by_cases e : x = m
    · subst e
      rw [upd_at, t21]
      have := (hEe x hx).2
      omega
    · rw [upd_ne e]
      exact (hEe x hx).2
  · intro x hx h0
    have h8 : 0 < (upd (σ.2.1 21) m (σ.2.1 21 m - v) x).toInt := h0
    refine hG x hx ?_
    by_cases e : x = m
    · subst e
      omega
    · rw [upd_ne e] at h8
      exact h8
  · refine ⟨fun x hx hx2 => ?_, hL.2.1, fun x hx hx2 => ?_⟩
    · have e : x ≠ m := by omega
      have h9 := hL.1 x hx hx2
      refine ⟨h9.1, h9.2.1, ?_, ?_⟩
      · show upd (σ.2.1 21) m _ x = 0
        rw [upd_ne e]
        exact h9.2.2.1
      · show upd (σ.2.1 22) m _ x = 0
        rw [upd_ne e]
        exact h9.2.2.2
    · have e : x ≠ ji := by omega
      have h9 := hL.2.2 x hx hx2
      refine ⟨?_, h9.2⟩
      show upd (σ.2.1 9) ji _ x = 0
      rw [upd_ne e]
      exact h9.1
/-- what is poured, ahead of the way down -/
def f_pr (σ : rS) (m : Int32) : rS := if q_pv σ m ≤ 0 then σ else f_keep2 (f_keep1 (f_pour1 σ m (rg σ 16 m) (q_pv σ m))) m (rg σ 16 m) (q_pv σ m)
theorem f_pour_pr {σ : rS} {m : Int32} : f_pour σ m = f_down (f_pr σ m) m := by
  unfold f_pour f_pr
  split <;> rfl
theorem Cx_pour {nf nj nm e0 : Nat} {B : Int} {σ : rS} {κ : cS} (h : Cx nf nj nm e0 B σ κ) {m : Nat} (hm : m < nm) : Cx nf nj nm e0 B (f_pr σ (nI m)) (g_pour κ m) := by
  have epv := pv_eq h hm
  have hb := h.2.2.1.1
  have cm := nI_cl (n := m) (by omega)
  unfold f_pr g_pour
  rw [epv]
  by_cases hv : q_pv σ (nI m) ≤ 0
  · rw [if_pos hv, if_neg (Int32.not_lt.mpr hv)]
    exact h
  · rw [if_neg hv, if_pos (Int32.not_le.mp hv)]
    have h1 := Cx_pour1 h hm hv
    have h0 : 0 < (σ.2.1 21 m).toInt := by
      have h8 : ¬ (q_pv σ (nI m)).toInt ≤ 0 := by
        rw [Int32.le_iff_toInt_le, t_0] at hv
        exact hv
      unfold q_pv rg at h8
      rw [least_int, cm] at h8
      omega
    have hg := h.2.2.2.2.2.2.2.2.2.1 m hm h0
    exact Cx_keep h1 hm hg.1 hg.2
theorem fv_eq {nf nj nm e0 : Nat} {B : Int} {σ : rS} {κ : cS} (h : Cx nf nj nm e0 B σ κ) {i m : Nat} (hi : i < nf) (hm : m < nm) : q_fvC κ i m = q_fv σ (nI i) (nI m) ∧ 0 ≤ (q_fv σ (nI i) (nI m)).toInt ∧ (q_fv σ (nI i) (nI m)).toInt ≤ (σ.2.1 2 i).toInt ∧ (q_fv σ (nI i) (nI m)).toInt ≤ (σ.2.1 14 m).toInt - (σ.2.1 21 m).toInt := by
  have hb := h.2.2.1.1
  have cm := nI_cl (n := m) (by omega)
  have ci := nI_cl (n := i) (by omega)
  have hA := (h.2.2.2.1 i hi).2
  have hE := h.2.2.2.2.2.2.2.1 m hm
  have ts : (σ.2.1 14 m - σ.2.1 21 m).toInt = (σ.2.1 14 m).toInt - (σ.2.1 21 m).toInt := by rw [fb_subI (by omega) (by omega)]
  refine ⟨?_, ?_⟩
  · unfold q_fvC q_fv rg
    rw [cm, ci, q_min_least, q_min_least, least_cm, h.1.1 2 rfl, h.1.1 14 rfl, h.1.1 21 rfl]
  · unfold q_fv rg
    rw [cm, ci, least_int, least_int, ts, show (10 : Int32).toInt = 10 by decide]
    omega
theorem updL_id {f : Nat → Int64} {k : Nat} : vp_updL f k (f k) = f := by
  funext i
  unfold vp_updL
  split
  · next e => rw [e]
  · rfl
theorem upd_id {f : Nat → Int32} {k : Nat} : upd f k (f k) = f := by
  funext i
  unfold upd
  split
  · next e => rw [e]
  · rfl
theorem cr_id {κ : cS} {k : Nat} : cr κ k (κ.1.2.1 k) = κ := by
  unfold cr
  rw [ra_id rfl]
theorem fill1_0 {κ : cS} {i m : Nat} : g_fill1 κ i m 0 = κ := by
  unfold g_fill1 cp cl
  rw [Int32.sub_zero, Int32.add_zero, upd_id, cr_id, upd_id, cr_id, show (0 : Int32).toInt64 = 0 by decide, Int64.add_zero, updL_id]
  rfl
theorem Cx_fillA {nf nj nm e0 : Nat} {B : Int} {σ : rS} {κ : cS} (h : Cx nf nj nm e0 B σ κ) {i m : Nat} (hi : i < nf) (hm : m < nm) : Cx nf nj nm e0 B (f_fill1 σ (nI i) (nI m)) (g_fill2 (g_fill1 κ i m (q_fvC κ i m)) i m (q_fvC κ i m)) := by
  have hN9 : rN nf nj nm (f_fill1 σ (nI i) (nI m)) := rK_fill1.N h.2.1
  obtain ⟨ev, v0, v1, v2⟩ := fv_eq h hi hm
  have hh := h
  obtain ⟨hE, hN, hI, hA, hB, hC, hD, hEe, hF, hG, hH, hIi, hJ, hK, hL⟩ := h
  have hb := hI.1
  have cm := nI_cl (n := m) (by omega)
  have ci := nI_cl (n := i) (by omega)
  rw [ev]
  unfold f_fill1 at hN9 ⊢
  generalize hvv : q_fv σ (nI i) (nI m) = v at *
  by_cases hv : v ≤ 0
  · have e0 : v = 0 := by
      rw [Int32.le_iff_toInt_le, t_0] at hv
      apply Int32.toInt_inj.mp
      rw [t_0]
      omega
    rw [if_pos hv, e0, fill1_0, g_fill2, if_pos (by decide)]
    exact hh
  · rw [if_neg hv] at hN9 ⊢
    rw [g_fill2, if_neg hv]
    have e1 : rp (rp (rl (rp (rp σ 2 (nI i) (rg σ 2 (nI i) - v)) 21 (nI m) (rg σ 21 (nI m) + v)) 2 (σ.2.2 2 + v.toInt64)) 24 (nI m) (nI i)) 25 (nI m) (σ.1 28) = ra (ra (rj (ra (ra σ 2 (upd (σ.2.1 2) i (σ.2.1 2 i - v))) 21 (upd (σ.2.1 21) m (σ.2.1 21 m + v))) (vp_updL σ.2.2 2 (σ.2.2 2 + v.toInt64))) 24 (upd (σ.2.1 24) m (nI i))) 25 (upd (σ.2.1 25) m (σ.1 28)) := by
      unfold rp rl rg
      rw [cm, ci]
      rfl
    have e2 : cp (cp (g_fill1 κ i m v) 24 m (nI i)) 25 m ((g_fill1 κ i m v).1.1 28) = cp (cp (cl (cp (cp κ 2 i (σ.2.1 2 i - v)) 21 m (σ.2.1 21 m + v)) 2 (σ.2.2 2 + v.toInt64)) 24 m (nI i)) 25 m (σ.1 28) := by
      rw [show (g_fill1 κ i m v).1.1 28 = σ.1 28 from hE.2.1 28 rfl]
      unfold g_fill1
      rw [hE.1 2 rfl, hE.1 21 rfl, hE.2.2]
    rw [e1] at hN9 ⊢
    rw [e2]
    have hI9 : cI nf nj nm (cp (cp (cl (cp (cp κ 2 i (σ.2.1 2 i - v)) 21 m (σ.2.1 21 m + v)) 2 (σ.2.2 2 + v.toInt64)) 24 m (nI i)) 25 m (σ.1 28)) := hI
    have hv9 : 0 < v.toInt := by
      rw [Int32.le_iff_toInt_le, t_0] at hv
      omega
    have a1 := (hA i hi).2
    have a2 := hEe m hm
    have t2 : (σ.2.1 2 i - v).toInt = (σ.2.1 2 i).toInt - v.toInt := by rw [fb_subI (by omega) (by omega)]
    have t21 : (σ.2.1 21 m + v).toInt = (σ.2.1 21 m).toInt + v.toInt := by rw [fb_addI (by omega) (by omega)]
    refine ⟨((((((hE.cp 2 i _ rfl).cp 21 m _ rfl).su 2 _).l 24 _ rfl).r 24 _ rfl).l 25 _ rfl).r 25 _ rfl, hN9, hI9, ?_, hB, hC, hD, ?_, hF, ?_, hH, hIi, hJ, hK, ?_⟩
    · intro x hx
      refine ⟨(hA x hx).1, ?_⟩
      show 0 ≤ (upd (σ.2.1 2) i (σ.2.1 2 i - v) x).toInt ∧ (upd (σ.2.1 2) i (σ.2.1 2 i - v) x).toInt ≤ 300
      by_cases e : x = i
      · subst e
        rw [upd_at, t2]
        omega
      · rw [upd_ne e]
        exact (hA x hx).2
    · intro x hx
      refine ⟨(hEe x hx).1, ?_⟩
      show 0 ≤ (upd (σ.2.1 21) m (σ.2.1 21 m + v) x).toInt ∧ (upd (σ.2.1 21) m (σ.2.1 21 m + v) x).toInt ≤ (σ.2.1 14 x).toInt
      by_cases e : x = m
      · subst e
        rw [upd_at, t21]
        omega
      · rw [upd_ne e]
        exact (hEe x hx).2
    · intro x hx h0
      have h8 : 0 < (upd (σ.2.1 21) m (σ.2.1 21 m + v) x).toInt := h0
      show upd (κ.1.2.1 24) m (nI i) x = upd (σ.2.1 24) m (nI i) x ∧ upd (κ.1.2.1 25) m (σ.1 28) x = upd (σ.2.1 25) m (σ.1 28) x
      by_cases e : x = m
      · rw [e, upd_at, upd_at, upd_at, upd_at]
        exact ⟨rfl, rfl⟩
      · rw [upd_ne e] at h8
        rw [upd_ne e, upd_ne e, upd_ne e, upd_ne e]
        exact hG x hx h8
    · refine ⟨fun x hx hx2 => ?_, fun x hx hx2 => ?_, hL.2.2⟩
      · have e : x ≠ m := by omega
        have h9 := hL.1 x hx hx2
        refine ⟨h9.1, h9.2.1, ?_, h9.2.2.2⟩
        show upd (σ.2.1 21) m _ x = 0
        rw [upd_ne e]
        exact h9.2.2.1
      · have e : x ≠ i := by omega
        have h9 := hL.2.1 x hx hx2
        refine ⟨?_, h9.2⟩
        show upd (σ.2.1 2) i _ x = 0
        rw [upd_ne e]
        exact h9.1
theorem Cx_fillB {nf nj nm e0 : Nat} {B : Int} {σ : rS} {κ : cS} (h : Cx nf nj nm e0 B σ κ) {m : Nat} (hm : m < nm) : Cx nf nj nm e0 B (f_fill2 σ (nI m)) (g_fill3 κ m) := by
  have hN9 : rN nf nj nm (f_fill2 σ (nI m)) := rK_fill2.N h.2.1
  obtain ⟨k, fi, ji, hk, hf, hj, e13, e15, e16⟩ := h.kd hm
  obtain ⟨w1, w2, w3, w4⟩ := way_eq h hm hj
  have hh := h
  obtain ⟨hE, hN, hI, hA, hB, hC, hD, hEe, hF, hG, hH, hIi, hJ, hK, hL⟩ := h
  have hb := hI.1
  have cm := nI_cl (n := m) (by omega)
  have cj := nI_cl (n := ji) (by omega)
  have cf := nI_cl (n := fi) (by omega)
  unfold f_fill2 at hN9 ⊢
  unfold g_fill3
  rw [hE.1 21 rfl, hE.1 14 rfl]
  have a2 := hEe m hm
  by_cases hq : σ.2.1 21 m = σ.2.1 14 m
  · have hq9 : rg σ 21 (nI m) = rg σ 14 (nI m) := by
      unfold rg
      rw [cm]
      exact hq
    rw [if_pos hq9] at hN9 ⊢
    rw [if_neg (fun q => by rw [hq, Int32.lt_iff_toInt_lt] at q; omega)]
    have e1 : rp (rp σ 19 (nI m) 1) 20 (nI m) (q_way (rp σ 19 (nI m) 1) (nI m) (rg σ 16 (nI m)) 1) = ra (ra σ 19 (upd (σ.2.1 19) m 1)) 20 (upd (σ.2.1 20) m (q_upC κ m ji)) := by
      rw [show rg σ 16 (nI m) = nI ji by rw [rg, cm, e16], show q_way (rp σ 19 (nI m) 1) (nI m) (nI ji) 1 = q_way σ (nI m) (nI ji) 1 from rfl, w1]
      unfold rp
      rw [cm]
      rfl
    have e2 : g_up (g_leave κ m) m (κ.1.1 28) = cp (cp (cp (cw κ fi ((κ.2.1 fi).erase m)) 19 m 1) 20 m (q_upC κ m ji)) 41 m (σ.1 28) := by
      unfold g_up
      rw [show (g_leave κ m).1.2.1 16 m = κ.1.2.1 16 m from rfl, hE.1 16 rfl, e16, cj, show q_upC (g_leave κ m) m ji = q_upC κ m ji from rfl, hE.2.1 28 rfl]
      unfold g_leave
      rw [hE.1 15 rfl, e15, cf]
    have hI9 : cI nf nj nm (g_up (g_leave κ m) m (κ.1.1 28)) := cI_up (cI_leave hI) (leave_no hI)
    have hno := leave_no (m := m) hI
    have hlv : g_leave κ m = cw κ fi ((κ.2.1 fi).erase m) := by
      unfold g_leave
      rw [hE.1 15 rfl, e15, cf]
    rw [e1] at hN9 ⊢
    rw [e2] at hI9 ⊢
    rw [hlv] at hno
    have hE0 : E σ (cw κ fi ((κ.2.1 fi).erase m)) := hE
    refine ⟨(((hE0.cp 19 m 1 rfl).l 20 _ rfl).r 20 _ rfl).r 41 _ rfl, hN9, hI9, hA, hB, hC, hD, hEe, ?_, hG, ?_, hIi, hJ, hK, ?_⟩
    · intro x hx hxe hd9
      show upd (κ.1.2.1 20) m _ x = upd (σ.2.1 20) m _ x ∧ 1 ≤ (upd (σ.2.1 20) m _ x).toInt
      by_cases e : x = m
      · rw [e, upd_at, upd_at]
        exact ⟨rfl, w3.1⟩
      · rw [upd_ne e, upd_ne e]
        have hd8 : ¬ upd (σ.2.1 19) m 1 x = 0 := hd9
        rw [upd_ne e] at hd8
        exact hF x hx hxe hd8
    · refine ⟨fun i hi => ?_, fun x hx hd9 i hi h15 => ?_, hH.2.2⟩
      · show (if i = fi then (κ.2.1 fi).erase m else κ.2.1 i).Pairwise (fun a b => (σ.2.1 23 a).toInt < (σ.2.1 23 b).toInt)
        split
        · exact (hH.1 fi hf).sublist List.erase_sublist
        · exact hH.1 i hi
      · have hd8 : upd (σ.2.1 19) m 1 x = 0 := hd9
        by_cases e : x = m
        · rw [e, upd_at] at hd8
          exact absurd hd8 (by decide)
        · rw [upd_ne e] at hd8
          have h9 := hH.2.1 x hx hd8 i hi h15
          show x ∈ (if i = fi then (κ.2.1 fi).erase m else κ.2.1 i)
          split
          · next e9 =>
            rw [e9] at h9
            exact (List.mem_erase_of_ne e).mpr h9
          · exact h9
    · refine ⟨fun x hx hx2 => ?_, hL.2⟩
      have e : x ≠ m := by omega
      have h9 := hL.1 x hx hx2
      refine ⟨h9.1, ?_, h9.2.2⟩
      show upd (σ.2.1 19) m 1 x = 0
      rw [upd_ne e]
      exact h9.2.1
  · have hq9 : ¬ rg σ 21 (nI m) = rg σ 14 (nI m) := by
      unfold rg
      rw [cm]
      exact hq
    rw [if_neg hq9]
    have hne := ne_toInt hq
    rw [if_pos (by rw [Int32.lt_iff_toInt_lt]; omega)]
    exact hh
