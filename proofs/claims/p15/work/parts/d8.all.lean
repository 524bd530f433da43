/-! A MeterBus against the model, told whole. -/
def EU (a : Nat → Nat) (S : MS) (h : PH) : Prop := h (a 3) = some (.inr (0, [.ref (a 4), .ref (a 5), .int (S.i 8), .int (S.i 9)]))
/-- the buffer -/
def EB (c : Nat → ClassId) (a : Nat → Nat) (S : MS) (h : PH) : Prop := ∃ (g : Nat → Int32) (n : Nat), RW c h (a 1) (a 2) g n ∧ S.i 2 = nI n ∧ ∀ j, j < n → g j = S.a 1 j
/-- the found ones -/
def EF (c : Nat → ClassId) (a : Nat → Nat) (S : MS) (h : PH) : Prop := ∃ (fn : Nat) (gf : Nat → Int64), h (a 0) = some (.inr (6, [.ref (a 1), .ref (a 3), .ref (a 7), .ref (a 9), .ref (a 10), .int (nI fn)])) ∧ S.i 20 = nI fn ∧ fn ≤ 12 ∧ h (a 10) = some (.inl (c 1, 12, .inr (.inl gf))) ∧ ∀ k, k < fn → AB (gf k) (fun b => S.a 21 (8 * k + b))
/-- reading i, at p: whose its rows are -/
def RL_ (h : PH) (ω : Nat → Nat) (i p : Nat) : Prop := ω p = 4 * i + 1 ∧ ∃ (va sg : Int64) (co fu ta un vn ln : Int32) (v : Nat) (lt : Value), h p = some (.inr (3, rdL va co fu sg ta un v vn lt ln)) ∧ ω v = 4 * i + 2 ∧ ∀ t, lt = .ref t → ω t = 4 * i + 3
/-- reading i, at p, is the model's record i -/
def REx (c : Nat → ClassId) (h : PH) (S : MS) (i p : Nat) : Prop := ∃ (v : Nat) (lt : Value) (fv : Nat → Int32), h p = some (.inr (3, rdL (S.w 24 i) (S.a 25 i) (S.a 26 i) (S.w 27 i) (S.a 28 i) (S.a 29 i) v (S.a 30 i) lt (S.a 33 i))) ∧ h v = some (.inl (c 0, 11, .inl fv)) ∧ (∀ j, j < (S.a 30 i).toNatClampNeg → fv j = S.a 31 (11 * i + j)) ∧
  ∀ j, j < (S.a 33 i).toNatClampNeg → ∃ (t m : Nat) (fl : Nat → Int32), lt = .ref t ∧ h t = some (.inl (c 0, m, .inl fl)) ∧ j < m ∧ fl j = S.a 35 ((S.a 32 i).toNatClampNeg + j)
/-- the letters of the records before r lie below the next one's -/
def TI (S : MS) (r : Nat) : Prop := ∀ i, i < r → ∀ j, j < (S.a 33 i).toNatClampNeg → (S.a 32 i).toNatClampNeg + j < f_tx S
/-- the list -/
def EL (c : Nat → ClassId) (a κ ω : Nat → Nat) (S : MS) (h : PH) : Prop := (∀ q, ω q ≠ 0 → κ q ≠ 0) ∧ ∃ (r : Nat) (gr : Nat → Option Nat), h (a 7) = some (.inr (4, [.ref (a 8), .int (nI r)])) ∧ S.i 23 = nI r ∧ r ≤ 100 ∧ h (a 8) = some (zR c gr) ∧ (∀ i p, i < 101 → gr i = some p → RL_ h ω i p) ∧ (∀ i, i < r → ∃ p, gr i = some p ∧ REx c h S i p) ∧ TI S r
/-- what the list is told by stays -/
def LSx (S S' : MS) : Prop := (∀ q, q = 23 ∨ q = 34 → S'.i q = S.i q) ∧ (∀ q j, S'.w q j = S.w q j) ∧ ∀ q j, 25 ≤ q → q ≤ 35 → S'.a q j = S.a q j
theorem LSx.rf (S : MS) : LSx S S := ⟨fun _ _ => rfl, fun _ _ => rfl, fun _ _ _ _ => rfl⟩
theorem LSx.tr {S S1 S2 : MS} (h : LSx S S1) (g : LSx S1 S2) : LSx S S2 := ⟨fun q hq => (g.1 q hq).trans (h.1 q hq), fun q j => (g.2.1 q j).trans (h.2.1 q j), fun q j q1 q2 => (g.2.2 q j q1 q2).trans (h.2.2 q j q1 q2)⟩
/-- the object, the model in any state of its -/
def ZI (c : Nat → ClassId) (a : Nat → Nat) (h9 : PH) (V : Nat → Prop) (α : Nat → Int64) (f : Nat → Option Nat) (κ κd ω ωd : Nat → Nat) (S : MS) (h : PH) : Prop :=
  ZZ c a h9 V α f κ κd h ∧ RK f α S ∧ (WFa S ∧ WFb S) ∧ ER c α f κ ω S h ∧ EU a S h ∧ EB c a S h ∧ EF c a S h ∧ EL c a κd ωd S h
section ZI
variable {w : Wd} {c : Nat → ClassId} {a : Nat → Nat} {h9 : PH} {V : Nat → Prop} {α : Nat → Int64} {f : Nat → Option Nat} {κ κd ω ωd : Nat → Nat} {S S' S1 S2 : MS} {h g : PH} {r : Option Value}
theorem EB.go (E : EB c a S h) (e1 : g (a 1) = h (a 1)) (e2 : g (a 2) = h (a 2)) (s2 : S'.i 2 = S.i 2) (s1 : ∀ j, S'.a 1 j = S.a 1 j) : EB c a S' g := by
  obtain ⟨gr, n, R, e, b⟩ := E
  exact ⟨gr, n, ⟨R.1, by rw [e1]; exact R.2.1, by rw [e2]; exact R.2.2.1, R.2.2.2⟩, s2.trans e, fun j hj => (b j hj).trans (s1 j).symm⟩
theorem EF.go (E : EF c a S h) (e0 : g (a 0) = h (a 0)) (e10 : g (a 10) = h (a 10)) (s20 : S'.i 20 = S.i 20) (s21 : ∀ j, S'.a 21 j = S.a 21 j) : EF c a S' g := by
  obtain ⟨fn, gf, x1, x2, x3, x4, x5⟩ := E
  exact ⟨fn, gf, by rw [e0]; exact x1, s20.trans x2, x3, by rw [e10]; exact x4, fun k hk b hb => (x5 k hk b hb).trans (s21 _).symm⟩
theorem RL_.go {i p : Nat} (R : RL_ h ωd i p) (e : g p = h p) : RL_ g ωd i p := by
  obtain ⟨r1, va, sg, co, fu, ta, un, vn, ln, v, lt, r2, r3⟩ := R
  exact ⟨r1, va, sg, co, fu, ta, un, vn, ln, v, lt, by rw [e]; exact r2, r3⟩
theorem rd_inj {va va' sg sg' : Int64} {co fu ta un vn ln co' fu' ta' un' vn' ln' : Int32} {v v' : Nat} {lt lt' : Value} {o : Option va_E} (h1 : o = some (.inr (3, rdL va co fu sg ta un v vn lt ln))) (h2 : o = some (.inr (3, rdL va' co' fu' sg' ta' un' v' vn' lt' ln'))) : v = v' ∧ lt = lt' := by
  have := h1.symm.trans h2
  simp only [Option.some.injEq, Sum.inr.injEq, Prod.mk.injEq, List.cons.injEq, Value.long.injEq, Value.int.injEq, Value.ref.injEq, true_and, and_true] at this
  exact ⟨this.2.2.2.2.2.2.1, this.2.2.2.2.2.2.2.2.1⟩
/-- record i stays, where its cells and the model's do -/
theorem REx.go {i p : Nat} (R : REx c h S i p) (L : RL_ h ωd i p) (e : ∀ q, 4 * i + 1 ≤ ωd q → ωd q ≤ 4 * i + 3 → g q = h q) (s : ∀ q, q = 24 ∨ q = 27 → S'.w q i = S.w q i) (s1 : ∀ q, (25 ≤ q ∧ q ≤ 30) ∨ q = 32 ∨ q = 33 → S'.a q i = S.a q i) (s31 : ∀ j, j < (S.a 30 i).toNatClampNeg → S'.a 31 (11 * i + j) = S.a 31 (11 * i + j)) (s35 : ∀ j, j < (S.a 33 i).toNatClampNeg → S'.a 35 ((S.a 32 i).toNatClampNeg + j) = S.a 35 ((S.a 32 i).toNatClampNeg + j)) : REx c g S' i p := by
  obtain ⟨l1, va, sg, co, fu, ta, un, vn, ln, v0, lt0, l2, l3, l4⟩ := L
  obtain ⟨v, lt, fv, r1, r2, r3, r4⟩ := R
  obtain ⟨e1, e2⟩ := rd_inj r1 l2
  subst e1 e2
  refine ⟨v, lt, fv, ?_, by rw [e v (by omega) (by omega)]; exact r2, fun j hj => ?_, fun j hj => ?_⟩
  · rw [e p (by omega) (by omega), s 24 (Or.inl rfl), s 27 (Or.inr rfl), s1 25 (by omega), s1 26 (by omega), s1 28 (by omega), s1 29 (by omega), s1 30 (by omega), s1 33 (by omega)]
    exact r1
  · rw [s1 30 (by omega)] at hj
    rw [s31 j hj]
    exact r3 j hj
  · rw [s1 33 (by omega)] at hj
    obtain ⟨t, m, fl, t1, t2, t3, t4⟩ := r4 j hj
    refine ⟨t, m, fl, t1, by rw [e t (by rw [l4 t t1]; omega) (by rw [l4 t t1]; omega)]; exact t2, t3, ?_⟩
    rw [s1 32 (by omega), s35 j hj]
    exact t4
theorem EL.go (E : EL c a κd ωd S h) (e7 : g (a 7) = h (a 7)) (e8 : g (a 8) = h (a 8)) (e : ∀ q, ωd q ≠ 0 → g q = h q) (s : LSx S S') : EL c a κd ωd S' g := by
  obtain ⟨x0, r, gr, x1, x2, x3, x4, x5, x6, x7⟩ := E
  refine ⟨x0, r, gr, by rw [e7]; exact x1, (s.1 23 (Or.inl rfl)).trans x2, x3, by rw [e8]; exact x4, fun i p hi hp => ?_, fun i hi => ?_, fun i hi j hj => ?_⟩
  · have L := x5 i p hi hp
    exact L.go (e p (by rw [L.1]; omega))
  · obtain ⟨p, p1, p2⟩ := x6 i hi
    have L := x5 i p (by omega) p1
    exact ⟨p, p1, p2.go L (fun q q1 _ => e q (by omega)) (fun q _ => s.2.1 q i) (fun q hq => s.2.2 q i (by omega) (by omega)) (fun j _ => s.2.2 31 _ (by omega) (by omega)) (fun j _ => s.2.2 35 _ (by omega) (by omega))⟩
  · rw [s.2.2 33 i (by omega) (by omega)] at hj
    rw [s.2.2 32 i (by omega) (by omega), show f_tx S' = f_tx S from by unfold f_tx; rw [s.1 34 (Or.inr rfl)]]
    exact x7 i hi j hj
theorem ZI.bb (Z : ZI c a h9 V α f κ κd ω ωd S h) : BB c (a 3) (a 4) (a 5) (a 6) h (WB a κ h) α f κ ω S h := ⟨Z.1.bus, Z.2.1, Z.2.2.2.1, Z.2.2.1, Z.2.2.2.2.1⟩
theorem BB.mod {u ma an aa : Nat} {h0 : PH} {W : Nat → Prop} (D : BB c u ma an aa h0 W α f κ ω S h) (s : ∀ q j, 10 ≤ q → q ≤ 18 → S'.a q j = S.a q j) (e8 : S'.i 8 = S.i 8) (e9 : S'.i 9 = S.i 9) (wf : WFa S' ∧ WFb S') : BB c u ma an aa h0 W α f κ ω S' h := by
  obtain ⟨d1, d2, d3, d4, d5⟩ := D
  exact ⟨d1, d2.sm ⟨fun j => s 10 j (by omega) (by omega), fun j => s 12 j (by omega) (by omega)⟩, d3.same (fun _ _ => rfl) (fun q j hq => s q j (by omega) (by omega)), wf, by rw [e8, e9]; exact d5⟩
/-- the bus went on, and what it did is the model's -/
theorem ZI.ofO (Z : ZI c a h9 V α f κ κd ω ωd S h) (O : OC c (a 3) (a 4) (a 5) (a 6) h (WB a κ h) α f κ ω S' r g) (s1 : ∀ q j, q = 1 ∨ q = 21 → S'.a q j = S.a q j) (s2 : S'.i 2 = S.i 2) (s20 : S'.i 20 = S.i 20) (sl : LSx S S') : ZI c a h9 V α f κ κd ω ωd S' g := by
  obtain ⟨z1, z2, z3, z4, z5, z6, z7, z8⟩ := Z
  obtain ⟨-, ⟨b1, b2, b3, b4, b5⟩, -⟩ := O
  have st : ∀ q, WB a κ h q → g q = h q := fun q hq => by obtain ⟨n, n90, -, -, -, -, -, -, D7⟩ := b1; exact (D7 q hq).2.2.2.2.2.2
  have wd : ∀ q, κd q ≠ 0 → WB a κ h q := fun q hq => by
    have kq : κ q = 0 := Decidable.byContradiction fun n => hq (z1.2.2.2.2.2.1 q n)
    have ne : ∀ i, i ≤ 10 → q ≠ a i := fun i hi e => hq (by rw [e]; exact (z1.2.2.2.2.2.2.1 i hi).2)
    exact ⟨z1.dec.nn.2 q hq, kq, ne 3 (by omega), ne 4 (by omega), ne 5 (by omega), ne 6 (by omega)⟩
  refine ⟨z1.ofB0 b1, b2, b4, b3, b5, z6.go (st _ (z1.wb (i := 1) (by omega))) (st _ (z1.wb (i := 2) (by omega))) s2 (fun j => s1 1 j (Or.inl rfl)), z7.go (st _ (z1.wb (i := 0) (by omega))) (st _ (z1.wb (i := 10) (by omega))) s20 (fun j => s1 21 j (Or.inr rfl)), z8.go (st _ (z1.wb (i := 7) (by omega))) (st _ (z1.wb (i := 8) (by omega))) (fun q hq => st q (wd q (z8.1 q hq))) sl⟩
/-- the model alone went on, nothing of it that is told -/
theorem ZI.mod (Z : ZI c a h9 V α f κ κd ω ωd S h) (wf : WFa S' ∧ WFb S') (s : ∀ q j, q = 1 ∨ (10 ≤ q ∧ q ≤ 18) ∨ q = 21 → S'.a q j = S.a q j) (si : ∀ q, q = 2 ∨ q = 8 ∨ q = 9 ∨ q = 20 → S'.i q = S.i q) (sl : LSx S S') : ZI c a h9 V α f κ κd ω ωd S' h := by
  obtain ⟨z1, z2, z3, z4, z5, z6, z7, z8⟩ := Z
  exact ⟨z1, z2.sm ⟨fun j => s 10 j (by omega), fun j => s 12 j (by omega)⟩, wf, z4.same (fun _ _ => rfl) (fun q j hq => s q j (by omega)), by rw [EU, si 8 (by omega), si 9 (by omega)]; exact z5, z6.go rfl rfl (si 2 (by omega)) (fun j => s 1 j (by omega)), z7.go rfl rfl (si 20 (by omega)) (fun j => s 21 j (by omega)), z8.go rfl rfl (fun _ _ => rfl) sl⟩
theorem ZI.x (Z : ZI c a h9 V α f κ κd ω ωd S h) : h (a 0) = some (.inr (6, [.ref (a 1), .ref (a 3), .ref (a 7), .ref (a 9), .ref (a 10), .int (S.i 20)])) := by
  obtain ⟨fn, gf, x1, x2, -⟩ := Z.2.2.2.2.2.2.1
  rw [x2]; exact x1
end ZI
/-! The bus leaves the rest of the model alone. -/
section Stay
variable {S : MS}
theorem step_w (isS sel : Bool) (c a : Int32) (k q j : Nat) : (f_step S isS sel c a k).w q j = S.w q j := by
  unfold f_step
  split
  · unfold f_does
    split
    · unfold f_sel; split <;> rfl
    · split
      · unfold f_short
        split
        · rfl
        · split <;> rfl
      · split
        · unfold f_long
          split
          · rfl
          · split <;> rfl
        · rfl
  · rfl
theorem run_w (isS sel : Bool) (c a : Int32) (q j : Nat) : ∀ n, (f_run S isS sel c a n).w q j = S.w q j
  | 0 => rfl
  | n + 1 => (step_w isS sel c a n q j).trans (run_w isS sel c a q j n)
theorem end_w (a : Int32) (q j : Nat) : (f_end S a).w q j = S.w q j := rfl
theorem begin_w (q j : Nat) : (f_begin S).w q j = S.w q j := rfl
theorem bus_w (n q j : Nat) : (f_bus S n).w q j = S.w q j := by
  unfold f_bus
  split
  · rw [end_w, run_w, begin_w]
  · split
    · rw [end_w, run_w, begin_w]
    · exact begin_w q j
theorem mcp_w (q j : Nat) : ∀ n, (f_mcp S n).w q j = S.w q j
  | 0 => rfl
  | n + 1 => by rw [f_mcp]; exact mcp_w q j n
theorem putM0_w (q j : Nat) : (f_putM0 S).w q j = S.w q j := (mcp_w (S := f_mhd S) q j 8)
theorem putM_w (q j : Nat) : (f_putM S).w q j = S.w q j := by unfold f_putM; rw [bus_w, putM0_w]
theorem putS_w (c : Int32) (q j : Nat) : (f_putS S c).w q j = S.w q j := by unfold f_putS; rw [bus_w]; rfl
theorem LSx.putM : LSx S (f_putM S) := ⟨fun q hq => f_putM_i _ (by omega) (by omega) (by omega) (by omega) (by omega), putM_w, fun q j q1 q2 => putM_bz (by unfold bz; split <;> first | omega | rfl) (by omega)⟩
theorem LSx.putS (c : Int32) : LSx S (f_putS S c) := ⟨fun q hq => f_putS_i _ _ (by omega) (by omega) (by omega) (by omega) (by omega), putS_w c, fun q j q1 q2 => putS_bz (by unfold bz; split <;> first | omega | rfl) (by omega)⟩
theorem putS_isS (c : Int32) : f_isS (f_putS0 S c) := by
  unfold f_isS f_putS0
  refine ⟨rfl, ?_, ?_, ?_⟩
  · simp [MS.si_a, MS.sa_a]
  · simp [MS.si_a, MS.sa_a]
  · simp [MS.si_a, MS.sa_a]
theorem putS_eq (c : Int32) : f_putS S c = f_end (f_run (f_begin (f_putS0 S c)) true false c 253 12) 253 := by
  have e1 : (f_putS0 S c).a 3 1 = c := by unfold f_putS0; simp [MS.si_a, MS.sa_a]
  have e2 : (f_putS0 S c).a 3 2 = 253 := by unfold f_putS0; simp [MS.si_a, MS.sa_a]
  unfold f_putS f_bus
  rw [if_pos (putS_isS c), e1, e2]
theorem putS0_a {c : Int32} {q j : Nat} (h : q ≠ 3) : (f_putS0 S c).a q j = S.a q j := by
  unfold f_putS0
  rw [MS.si_a, sa_ne h, sa_ne h, sa_ne h, sa_ne h, sa_ne h]
theorem WFb.putS0 {c : Int32} (h : WFb S) (hc : byt c) : WFb (f_putS0 S c) := ((((h.sa (fun _ => ⟨16, by decide, rfl⟩)).sa (fun _ => hc)).sa (fun _ => ⟨253, by decide, rfl⟩)).sa (fun _ => byt_and _)).sa (fun _ => ⟨22, by decide, rfl⟩)
theorem putM0_ne {q j : Nat} (h : q ≠ 3) : (f_putM0 S).a q j = S.a q j := by
  unfold f_putM0
  rw [MS.si_a, sa_ne h, sa_ne h, f_mcp_a _ _ h]
  unfold f_mhd
  rw [sa_ne h, sa_ne h, sa_ne h, sa_ne h, sa_ne h, sa_ne h, sa_ne h]
theorem WFb.putM0 (h : WFb S) : WFb (f_putM0 S) := by
  have hh : WFb (f_mhd S) := (((((((h.sa (fun _ => ⟨104, by decide, rfl⟩)).sa (fun _ => ⟨11, by decide, rfl⟩)).sa (fun _ => ⟨11, by decide, rfl⟩)).sa (fun _ => ⟨104, by decide, rfl⟩)).sa (fun _ => ⟨83, by decide, rfl⟩)).sa (fun _ => ⟨253, by decide, rfl⟩)).sa (fun _ => ⟨82, by decide, rfl⟩))
  exact ((hh.mcp 8).sa (fun _ => byt_and _)).sa (fun _ => ⟨22, by decide, rfl⟩)
end Stay
section Put
variable {w : Wd} {c : Nat → ClassId} {a : Nat → Nat} {h9 : PH} {V : Nat → Prop} {α : Nat → Int64} {f : Nat → Option Nat} {κ κd ω ωd : Nat → Nat} {S S' S1 S2 : MS} {h g : PH} {r : Option Value}
variable {z : Fx} {cc : ByteArray} {kc ks pc : Nat} {L : List (Option Value)} {st : List Value} {fr lo : Nat}
/-- bus.putShort of the master -/
theorem k_putS (hX : Wx w c) (C : Cx z RX6 cc gw) (Y : Cty z c) (E : Cs z w fr lo) (hf : 6 ≤ fr) (hlo : 240 ≤ lo) (Z : ZI c a h9 V α f κ κd ω ωd S h) {cm : Int32} (hc : byt cm) (d : decode cc pc = .ok (.invokevirtual 166, 3)) (hcat : (st.map fun v => v.category).sum ≤ 8)
    (k : ∀ g, ZI c a h9 V α f κ κd ω ωd (f_putS S cm) g → AW c g (a 5) (a 6) (f_putS S cm) → X z kc ks (EQ g) (pc + 3) L (.int (outV (f_putS S cm)) :: st)) : X z kc ks (EQ h) pc L (.int 253 :: .int cm :: .ref (a 3) :: st) := by
  have D : BB c (a 3) (a 4) (a 5) (a 6) h (WB a κ h) α f κ ω (f_putS0 S cm) h := Z.bb.mod (fun q j q1 q2 => putS0_a (by omega)) rfl rfl ⟨Z.2.2.1.1.putS0, Z.2.2.1.2.putS0 hc⟩
  have M := u_putShortX hX D cm 253
  rw [← putS_eq] at M
  refine k_callR (kc := kc) (ks := ks) (mc' := 0) (ms' := 0) (st := st) C Y hX.1 E M rfl md_X0_putShort wi_X0_putShort ws_X0_putShort wm_X6_166 d rfl hf (by omega) Z.2.2.2.2.1 rfl rfl hcat (fun r g hg => ?_)
  have hr := hg.1
  subst hr
  exact k g (Z.ofO hg (fun q j hq => putS_bz (by rcases hq with rfl | rfl <;> rfl) (by omega)) (f_putS_i _ _ (by decide) (by decide) (by decide) (by decide) (by decide)) (f_putS_i _ _ (by decide) (by decide) (by decide) (by decide) (by decide)) (LSx.putS cm)) hg.2.2
/-- bus.putSelect of the master -/
theorem k_putM (hX : Wx w c) (C : Cx z RX6 cc gw) (Y : Cty z c) (E : Cs z w fr lo) (hf : 6 ≤ fr) (hlo : 240 ≤ lo) (Z : ZI c a h9 V α f κ κd ω ωd S h) {mk : Int64} (hm : AB mk (fun b => S.a 19 b)) (d : decode cc pc = .ok (.invokevirtual 217, 3)) (hcat : (st.map fun v => v.category).sum ≤ 8)
    (k : ∀ g, ZI c a h9 V α f κ κd ω ωd (f_putM S) g → AW c g (a 5) (a 6) (f_putM S) → X z kc ks (EQ g) (pc + 3) L (.int (outV (f_putM S)) :: st)) : X z kc ks (EQ h) pc L (.long mk :: .ref (a 3) :: st) := by
  have D : BB c (a 3) (a 4) (a 5) (a 6) h (WB a κ h) α f κ ω (f_putM0 S) h := Z.bb.mod (fun q j q1 q2 => putM0_ne (by omega)) (f_mcp_i (f_mhd S) 8 8) (f_mcp_i (f_mhd S) 8 9) ⟨Z.2.2.1.1.putM0, Z.2.2.1.2.putM0⟩
  have M := u_putSelectX hX D (mk := mk) (fun b hb => (hm b hb).trans (by show S.a 19 b = (f_putM0 S).a 3 (7 + b); rw [putM0_a S (7 + b) (by omega), if_pos (by omega), show 7 + b - 7 = b by omega])) 83
  rw [← putM_eq] at M
  refine k_callR (kc := kc) (ks := ks) (mc' := 0) (ms' := 0) (st := st) C Y hX.1 E M rfl md_X0_putSelect wi_X0_putSelect ws_X0_putSelect wm_X6_217 d rfl hf (by omega) Z.2.2.2.2.1 rfl rfl hcat (fun r g hg => ?_)
  have hr := hg.1
  subst hr
  exact k g (Z.ofO hg (fun q j hq => putM_bz (by rcases hq with rfl | rfl <;> rfl) (by omega)) (f_putM_i _ (by decide) (by decide) (by decide) (by decide) (by decide)) (f_putM_i _ (by decide) (by decide) (by decide) (by decide) (by decide)) LSx.putM) hg.2.2
end Put
