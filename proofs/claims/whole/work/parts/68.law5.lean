/-! ===== the law: its start ===== -/
theorem rD_ok : ∀ j, j < 41 → defaultValue (tyX9 j) = vp_V rD j := by
  intro j hj
  rcases (show j = 0 ∨ j = 1 ∨ j = 2 ∨ j = 3 ∨ j = 4 ∨ j = 5 ∨ j = 6 ∨ j = 7 ∨ j = 8 ∨ j = 9 ∨ j = 10 ∨ j = 11 ∨ j = 12 ∨ j = 13 ∨ j = 14 ∨ j = 15 ∨ j = 16 ∨ j = 17 ∨ j = 18 ∨ j = 19 ∨ j = 20 ∨ j = 21 ∨ j = 22 ∨ j = 23 ∨ j = 24 ∨ j = 25 ∨ j = 26 ∨ j = 27 ∨ j = 28 ∨ j = 29 ∨ j = 30 ∨ j = 31 ∨ j = 32 ∨ j = 33 ∨ j = 34 ∨ j = 35 ∨ j = 36 ∨ j = 37 ∨ j = 38 ∨ j = 39 ∨ j = 40 by omega) with rfl | rfl | rfl | rfl | rfl | rfl | rfl | rfl | rfl | rfl | rfl | rfl | rfl | rfl | rfl | rfl | rfl | rfl | rfl | rfl | rfl | rfl | rfl | rfl | rfl | rfl | rfl | rfl | rfl | rfl | rfl | rfl | rfl | rfl | rfl | rfl | rfl | rfl | rfl | rfl | rfl <;> rfl
theorem KR.newR {M : ab_M} {a : Nat} {t : Nat × Nat} {e : va_E} (h : M a = none) : KR M (ab_set M a t e) := fun _ _ _ h1 _ => ab_set_new h h1
set_option maxRecDepth 100000 in
set_option maxHeartbeats 4000000 in
theorem law_start {l : Launch} {nm : String} {g : ab_G} {b N : Nat} {xs : Nat → Int32} (hN : N ≤ 3584) : AW l g (XL g b N xs) ZL (YL nm) 13 482 1584 18796 0 [some (.ref b), none, none, none] [] (fun _ => none) := by
  refine aw_new (kc := 1583) (ks := 18787) (0, 0) [.null, .null, .null, .null, .null, .null, .null, .int 0, .int 0] dL_law_0 cl_9 tw_61 tw_62 tw_41 (fun j hj => by rcases (show j = 0 ∨ j = 1 ∨ j = 2 ∨ j = 3 ∨ j = 4 ∨ j = 5 ∨ j = 6 ∨ j = 7 ∨ j = 8 by omega) with rfl | rfl | rfl | rfl | rfl | rfl | rfl | rfl | rfl <;> rfl) (fun ax hax => ?_)
  refine aw_dup dL_law_3 rfl ?_
  refine aw_I0v (kc' := 1569) (ks' := 17980) dL_law_4 cs_L_9 (c_init ab_set_self) (ab_fit_mk (Nat.le_of_ble_eq_true rfl) (Nat.le_of_ble_eq_true rfl) (by omega) (by omega)) (Nat.le_of_ble_eq_true rfl) (fun M4 h4 => ?_)
  obtain ⟨α, eα, hC, hKH⟩ := h4
  refine aw_astore_n dL_law_7 rfl (Nat.le_of_ble_eq_true rfl) ?_
  refine aw_new (kc := 1568) (ks := 17939) (20, 0) rD dL_law_8 cl_10 tw_789 tw_790 tw_49 rD_ok (fun am ham => ?_)
  replace hC := hC.kr (KR.newR (t := (20, 0)) (e := .inr (10, rD)) ham)
  refine aw_dup dL_law_11 rfl ?_
  refine aw_I0v (kc' := 1536) (ks' := 16896) dL_law_12 cs_L_12 (r_init ab_set_self) (ab_fit_mk (Nat.le_of_ble_eq_true rfl) (Nat.le_of_ble_eq_true rfl) (by omega) (by omega)) (Nat.le_of_ble_eq_true rfl) (fun M12 h12 => ?_)
  obtain ⟨ρ, hR, hKR⟩ := h12
  replace hC := hC.kr hKR
  refine aw_astore_n dL_law_15 rfl (Nat.le_of_ble_eq_true rfl) ?_
  refine aw_iconst (v := nI (7 * 0)) dL_law_16 (by decide) ?_
  refine aw_istore_n dL_law_17 rfl (Nat.le_of_ble_eq_true rfl) ?_
  exact law_loop hN 512 0 1536 16896 M12 rfl (by omega) (by omega) ⟨α, ρ, 0, 0, 0, s_1, κ0, eα, hC, hR, s_start⟩
theorem kn_of {args : Array Value} {s : State} (hT : ∀ w ∈ ab_T, w.before args s = true) {ci N n : Nat} {C : String} {T : u_T} {ty0 : Nat → FieldType} (hc : ab_cl ci C T N ty0) (hi : Cond.instantiable C n ∈ ab_T) : ∃ (cC : ClassId) (iS : Nat → Nat), u_Kn s C T N cC iS := u_known hT hc.2.1 (hT _ hi)
theorem law_ground {args : Array Value} {s : State} (hts : ∀ w ∈ lw_tbl, w.before args s = true) (hgv : (Jvm.Cond.and given_1 narrow_1).before args s = true) : ∃ g : ab_G, ab_E g s s.heap ∧ ab_B g = s.heap.size := by
  have hT : ∀ w ∈ ab_T, w.before args s = true := fun w hw => hts w (List.mem_filter.mp hw).1
  have hs := flat_of_before _ hgv
  obtain ⟨c0, i0, k0⟩ := kn_of hT cl_0 tw_70
  obtain ⟨c1, i1, k1⟩ := kn_of hT cl_1 tw_365
  obtain ⟨c2, i2, k2⟩ := kn_of hT cl_2 tw_96
  obtain ⟨c3, i3, k3⟩ := kn_of hT cl_3 tw_200
  obtain ⟨c4, i4, k4⟩ := kn_of hT cl_4 tw_139
  obtain ⟨c5, i5, k5⟩ := kn_of hT cl_5 tw_296
  obtain ⟨c6, i6, k6⟩ := kn_of hT cl_6 tw_450
  obtain ⟨c7, i7, k7⟩ := kn_of hT cl_7 tw_122
  obtain ⟨c8, i8, k8⟩ := kn_of hT cl_8 tw_434
  obtain ⟨c9, i9, k9⟩ := kn_of hT cl_9 tw_62
  obtain ⟨c10, i10, k10⟩ := kn_of hT cl_10 tw_790
  obtain ⟨aI, kI, mI, a1, a2, a3⟩ := Cond.arrayClass_spec (hT _ tw_120)
  obtain ⟨aJ, kJ, mJ, a4, a5, a6⟩ := Cond.arrayClass_spec (hT _ tw_183)
  obtain ⟨aZ, kZ, mZ, a7, a8, a9⟩ := Cond.arrayClass_spec (hT _ tw_919)
  have hov : (Cond.arrayOver (.object "java/lang/Object")).before args s = true := hts _ (List.mem_of_getElem? (i := 281) (by decide +kernel))
  obtain ⟨mO, aO, kO, b1, b2, b3, b4, b5⟩ := Cond.arrayOver_spec hov
  have hA : ∀ a : Nat, a < s.heap.size → ¬ s.heap.size ≤ a := fun a h => by omega
  obtain ⟨t, ht, hTt⟩ := va_Tof (tm := Term.static "java/util/ArrayList" "DEFAULTCAPACITY_EMPTY_ELEMENTDATA" "[Ljava/lang/Object;") (ty := .object "java/lang/Object") (N := 0) (f := fun _ => .null) (A := fun q => s.heap.size ≤ q) (by decide) (hs _ (by decide +kernel)) (va_eqt (hs _ (by decide +kernel))) (fun j hj => absurd hj (Nat.not_lt_zero _)) hA
  have hZ := va_Zof (A := fun q => s.heap.size ≤ q) (hts (Cond.laysStatic "java/util/ArrayList" "DEFAULTCAPACITY_EMPTY_ELEMENTDATA" "[Ljava/lang/Object;") (List.mem_of_getElem? (i := 82) (by decide +kernel))) (hT _ tw_44) ht hA
  refine ⟨(fun c => [c0, c1, c2, c3, c4, c5, c6, c7, c8, c9, c10].getD c c0, fun c => [i0, i1, i2, i3, i4, i5, i6, i7, i8, i9, i10].getD c i0, fun k => [aI, aJ, aZ, aO].getD k aI, s.heap.size, t), ⟨⟨?_, ?_⟩, ?_, va_AO.of hov, ?_, hZ, hTt⟩, rfl⟩
  · intro c q h
    match c, h with
    | 0, h => obtain rfl := Option.some.inj h; exact k0
    | 1, h => obtain rfl := Option.some.inj h; exact k1
    | 2, h => obtain rfl := Option.some.inj h; exact k2
    | 3, h => obtain rfl := Option.some.inj h; exact k3
    | 4, h => obtain rfl := Option.some.inj h; exact k4
    | 5, h => obtain rfl := Option.some.inj h; exact k5
    | 6, h => obtain rfl := Option.some.inj h; exact k6
    | 7, h => obtain rfl := Option.some.inj h; exact k7
    | 8, h => obtain rfl := Option.some.inj h; exact k8
    | 9, h => obtain rfl := Option.some.inj h; exact k9
    | 10, h => obtain rfl := Option.some.inj h; exact k10
    | n + 11, h => cases h
  · intro k q h
    match k, h with
    | 0, h => obtain rfl := Option.some.inj h; exact ⟨fun n z => ⟨(fun k h => by cases h), kI, a2, mI, a3⟩, a1⟩
    | 1, h => obtain rfl := Option.some.inj h; exact ⟨fun n z => ⟨(fun k h => by cases h), kJ, a5, mJ, a6⟩, a4⟩
    | 2, h => obtain rfl := Option.some.inj h; exact ⟨fun n z => ⟨(fun k h => by cases h), kZ, a8, mZ, a9⟩, a7⟩
    | 3, h => obtain rfl := Option.some.inj h; exact ⟨fun n z => ⟨(fun k h => by cases h), kO, b3, mO, b4⟩, kO, mO, b3, b4, b1, b5⟩
    | n + 4, h => cases h
  · intro w hw
    have h1 := hts w (List.mem_filter.mp hw).1
    have h2 := (List.mem_filter.mp hw).2
    cases w <;> first | exact va_Nw.of rfl h1 | (simp [ab_isN] at h2; done)
  · intro C hC
    rcases List.mem_cons.mp hC with rfl | hC
    · exact va_Nc.of (hs _ (by decide +kernel))
    · rcases List.mem_cons.mp hC with rfl | hC
      · exact va_Nc.of (hs _ (by decide +kernel))
      · cases hC
/-- YOUR PART: from the entry, for every script of at most 3584 ints, the law comes to its end with true -/
theorem whole_start {p : Program} {e : Env} {s : State} {m : MethodId} {below : List Frame} {meth : Method} {c : Code} (l : Launch) {b L : Nat} {xs : Nat → Int32} (hL : L ≤ 3584) (C0 : lw_At p s m meth c b L xs) : W p l e room_1 s m #[Value.ref b] below meth c s.heap [] 0 0 (lw_Z below #[Value.ref b] s) (entryFrame m ([Value.ref b] : List Value).toArray 4) := by
  obtain ⟨hx, hcode, hret, hml, hown, hts, hX, hbl, hlk, hgv⟩ := C0
  have hT : ∀ w ∈ ab_T, w.before #[Value.ref b] s = true := fun w hw => hts w (List.mem_filter.mp hw).1
  obtain ⟨g, hE, hB⟩ := law_ground hts hgv
  have hl := lv_entry [Value.ref b] (n := 4) (Nat.le_of_ble_eq_true rfl)
  rw [lg_entry_eq]
  have k := law_start (l := l) (nm := meth.name) (g := g) (b := b) (N := L) (xs := xs) hL p e room_1 s m #[Value.ref b] below meth c s.heap [] 0 0 _ ⟨hx, hcode, hml, hown, hT, hlk, hret, rfl, ⟨rfl, hX, hbl, hB⟩, by decide, by decide, hE, Nat.le_of_eq hB⟩ (by decide) (by decide) va_S.rf ⟨[], (fun k q h => by cases h), ⟨(fun i j p q h => by cases h), (fun k q h => by cases h)⟩, (fun a t e h => by cases h)⟩ hl
  intro T hT X
  obtain ⟨t, a1, b1⟩ := k T hT X
  exact ⟨t, a1, b1 rfl⟩
