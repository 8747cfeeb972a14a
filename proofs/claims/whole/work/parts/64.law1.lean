/-! ===== the law: its ground ===== -/
def R_law : String := "WaterMenLaw"
def lw_P (b : Addr) (xs : List Int32) (args : Array Value) (s : State) : Prop := args = #[.ref b] ∧ s.IntsAt b xs ∧ xs.length ≤ 3584 ∧ (Jvm.Cond.and given_1 narrow_1).before args s = true
def lw_Q (_ : Array Value) (s : State) (o : Outcome) (t : State) : Prop := o = .returned (some (.int 1)) ∧ Framed s o t [] 600000 7302250
def lw_Z (below : List Frame) (a : Array Value) (s : State) : State → Prop := fun t => ∃ o, t.status = .running ∧ Ended t below o ∧ lw_Q a s o t
/-- the law's own end, with 1 on the stack, nothing written that was there before, its room as the claim has it -/
theorem lw_ret {p : Program} {l : Launch} {e : Env} {s : State} {m : MethodId} {below : List Frame} {meth : Method} {c : Code} {b : Nat} (hx : p.tables.exec = Jvm.exec) (hb : c.code = code) (hr : meth.sig.returnType = ret) (hlocks : meth.locks = false) {pc : Nat} {H : Heap} {ls : Array Slot} (hdg : decode code pc = .ok (.ireturn, 1)) : W p l e room_1 s m #[Value.ref b] below meth c H [] 600000 7302250 (lw_Z below #[Value.ref b] s) (F0 m pc ls [.int 1]) := by
  intro T hT X
  obtain ⟨fs, hret, hrun, hended, hW, hframe⟩ := X.leave (v := some (.int 1)) (hlocks := hlocks) (fun h => by rw [hr] at h; cases h)
  have hmeth' : T.vm.method? m = some meth := X.method'
  refine ⟨T.setFrames fs, ?_, .returned (some (.int 1)), hrun, hended, rfl, ⟨_, rfl⟩, hW, hframe⟩
  jvm_step X.here [X.here.top, hx, hb, hdg, hmeth', hr, ret, narrow_b1]
  (try refine ⟨rfl, ?_⟩); (try refine ⟨rfl, ?_⟩)
  first | (intro acts; rw [hret _ acts rfl rfl rfl]) | rw [hret _ _ rfl rfl rfl]
  exact Steps.refl _
/-- what holds at the law's entry: the machine, the code, the tables' words (any of lw_tbl by 'hts w (by decide +kernel)'), the script of L ints xs at the cell b, what the Statement gives of the start (any of its parts by flat_of_before) -/
def lw_At (p : Program) (s : State) (m : MethodId) (meth : Method) (c : Code) (b L : Nat) (xs : Nat → Int32) : Prop :=
  p.tables.exec = Jvm.exec ∧ c.code = code ∧ meth.sig.returnType = ret ∧ c.maxLocals = 4 ∧ s.vm.findClass R_law = some m.cls ∧ (∀ w ∈ lw_tbl, w.before #[Value.ref b] s = true) ∧ va_X b L xs s s.heap ∧ b < s.heap.size ∧ meth.locks = false ∧ (Jvm.Cond.and given_1 narrow_1).before #[Value.ref b] s = true
theorem RR.kh {g : ab_G} {M M2 : ab_M} {a0 : Nat} {ρ : Nat → Nat} {σ : rS} (h : RR g M a0 ρ σ) (hK : KH M M2) : RR g M2 a0 ρ σ := ⟨hK _ _ _ h.1 (by decide), hK _ _ _ (rr_1 h) (by decide), hK _ _ _ (rr_2 h) (by decide), hK _ _ _ (rr_3 h) (by decide), hK _ _ _ (rr_4 h) (by decide), hK _ _ _ (rr_6 h) (by decide), hK _ _ _ (rr_7 h) (by decide), hK _ _ _ (rr_8 h) (by decide), hK _ _ _ (rr_9 h) (by decide), hK _ _ _ (rr_10 h) (by decide), hK _ _ _ (rr_11 h) (by decide), hK _ _ _ (rr_13 h) (by decide), hK _ _ _ (rr_14 h) (by decide), hK _ _ _ (rr_15 h) (by decide), hK _ _ _ (rr_16 h) (by decide), hK _ _ _ (rr_17 h) (by decide), hK _ _ _ (rr_18 h) (by decide), hK _ _ _ (rr_19 h) (by decide), hK _ _ _ (rr_20 h) (by decide), hK _ _ _ (rr_21 h) (by decide), hK _ _ _ (rr_22 h) (by decide), hK _ _ _ (rr_23 h) (by decide), hK _ _ _ (rr_24 h) (by decide), hK _ _ _ (rr_25 h) (by decide), hK _ _ _ (rr_29 h) (by decide), hK _ _ _ (rr_30 h) (by decide), hK _ _ _ (rr_33 h) (by decide), hK _ _ _ (rr_34 h) (by decide), hK _ _ _ (rr_36 h) (by decide), hK _ _ _ (rr_37 h) (by decide), hK _ _ _ (rr_38 h) (by decide), hK _ _ _ (rr_39 h) (by decide), hK _ _ _ (rr_40 h) (by decide)⟩
theorem CC.kr {g : ab_G} {M M2 : ab_M} {α : Nat → Nat → Nat} {nf nj nm : Nat} {κ : cS} (h : CC g M α nf nj nm κ) (hK : KR M M2) : CC g M2 α nf nj nm κ := by
  have hK : KT (fun t => ¬ t.1 < 20) M M2 := fun a t e h1 h2 => hK a t e h1 (Decidable.of_not_not h2)
  obtain ⟨hW, hA, hP, hG, hU, hF, hJ, hN, hL, hQ⟩ := h
  exact ⟨hW.kp hK (by simp), hA.kp hK (by simp) (by simp), hP.kp hK (by simp) (by simp), hG.kp hK (by simp) (by simp), hU.kp hK (by simp), hF.kp hK (by simp), hJ.kp hK (by simp) (by simp), hN.kp hK (by simp), hL.kp hK (by simp) (by simp), hQ.kp hK (by simp) (by simp)⟩
abbrev YL (nm : String) : ab_Y := (⟨"WaterMenLaw", nm, "([I)Z"⟩, code, 4, ret)
def XL (g : ab_G) (b L : Nat) (xs : Nat → Int32) : State → Array Value → Prop := fun s args => args = #[Value.ref b] ∧ va_X b L xs s s.heap ∧ b < s.heap.size ∧ ab_B g = s.heap.size
def ZL : List Frame → Array Value → State → Room → State → Prop := fun below args s R t => R = room_1 → lw_Z below args s t
theorem ab_fit_mk {F Lw kc ks : Nat} {z : ab_Y} {F' Lw' mc ms kc' ks' : Nat} (h1 : F' + 1 ≤ F) (h2 : 8 + (z.2.2.1 + 11) + Lw' ≤ Lw) (h3 : mc + kc' ≤ kc) (h4 : ms + ks' ≤ ks) : ab_fit F Lw kc ks z F' Lw' mc ms kc' ks' = true := by
  simp only [ab_fit, Bool.and_eq_true, decide_eq_true_eq]
  exact ⟨h1, h2, h3, h4⟩
section LW
variable {l : Launch} {nm : String} {g : ab_G} {F Lw kc ks : Nat} {pc : Nat} {L : List (Option Value)} {st : List Value} {M : ab_M} {b N : Nat} {xs : Nat → Int32} {Z : List Frame → Array Value → State → Room → State → Prop}
theorem aw_sld {i : Int32} (hd : decode code pc = .ok (.iaload, 1)) (hin : vp_in i N) (kk : AW l g (XL g b N xs) Z (YL nm) F Lw kc ks (pc + 1) L (.int (xs i.toNatClampNeg) :: st) M) : AW l g (XL g b N xs) Z (YL nm) F Lw kc ks pc L (.int i :: .ref b :: st) M := by
  intro p e R s m args below meth c H locs cells slots ls C c1 c2 hS hR hl
  obtain ⟨-, h2, h3, h4⟩ := C.2.2.2.2.2.2.2.2.1
  exact va_sld C.1 C.2.1 h2 h3 (by show ¬ ab_B g ≤ b; omega) hS hin hd (kk p e R s m args below meth c H locs cells slots ls C c1 c2 hS hR hl)
theorem aw_slen (hd : decode code pc = .ok (.arraylength, 1)) (kk : AW l g (XL g b N xs) Z (YL nm) F Lw kc ks (pc + 1) L (.int (Int32.ofNat N) :: st) M) : AW l g (XL g b N xs) Z (YL nm) F Lw kc ks pc L (.ref b :: st) M := by
  intro p e R s m args below meth c H locs cells slots ls C c1 c2 hS hR hl
  obtain ⟨-, h2, h3, h4⟩ := C.2.2.2.2.2.2.2.2.1
  exact va_slen C.1 C.2.1 h2 h3 (by show ¬ ab_B g ≤ b; omega) hS hd (kk p e R s m args below meth c H locs cells slots ls C c1 c2 hS hR hl)
/-- the law's end -/
theorem aw_law1 (hd : decode code pc = .ok (.ireturn, 1)) : AW l g (XL g b N xs) ZL (YL nm) F Lw kc ks pc L [.int 1] M := by
  intro p e R s m args below meth c H locs cells slots ls C c1 c2 hS hR hl
  obtain ⟨rfl, h2, h3, h4⟩ := C.2.2.2.2.2.2.2.2.1
  obtain ⟨hx, hb, hml, hown, hts, hlk, hrt, -⟩ := id C
  by_cases h0 : R = room_1
  · subst h0
    have k := lw_ret (e := e) (l := l) (s := s) (m := m) (below := below) (b := b) (pc := pc) (H := H) (ls := ls) hx hb hrt hlk hd
    have k2 : W p l e room_1 s m #[Value.ref b] below meth c H locs cells slots (lw_Z below #[Value.ref b] s) (F0 m pc ls [.int 1]) := by
      refine va_forget (fun q hq => ?_) (W.widen ?_ ?_ k)
      · have := hS.2.2 q hq
        have h9 : ab_B g ≤ q.base := this
        omega
      · have h9 : cells + kc ≤ 600000 := c1
        omega
      · have h9 : slots + ks ≤ 7302250 := c2
        omega
    intro T hT X
    obtain ⟨t, a1, b1⟩ := k2 T hT X
    exact ⟨t, a1, fun _ => b1⟩
  · intro T hT X
    exact ⟨_, Steps.refl _, fun h => absurd h h0⟩
end LW
/-- between calls: the class at ax, the reference at am, c calls behind them -/
def JS (g : ab_G) (M : ab_M) (ax am : Nat) (c : Int) : Prop := ∃ (α : Nat → Nat → Nat) (ρ : Nat → Nat) (nf nj nm : Nat) (σ : rS) (κ : cS), α 0 0 = ax ∧ CC g M α nf nj nm κ ∧ RR g M am ρ σ ∧ S c nf nj nm σ κ
theorem idx7 {t k N : Nat} (ht : 7 * t + 7 ≤ N) (hN : N ≤ 3584) (hk : k < 7) : vp_in (nI (7 * t) + nI k) N := by
  rw [nI_add]
  exact vp_in_nI (by omega) (by omega)
