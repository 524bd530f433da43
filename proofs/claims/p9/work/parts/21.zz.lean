section
/-! A MeterBus and all that it owns. -/
def ND (_ : Nat) : Prop := False
/-- a 0 the object, a 1, a 2 the buffer, a 3 .. a 6 the bus, a 7, a 8 the list, a 9 the decoder, a 10 the found ones -/
def ZZ (c : Nat → ClassId) (a : Nat → Nat) (h9 : PH) (V : Nat → Prop) (α : Nat → Int64) (f : Nat → Option Nat) (κ κd : Nat → Nat) (h : PH) : Prop :=
  (∃ fn, fn ≤ 12 ∧ h (a 0) = some (.inr (6, [.ref (a 1), .ref (a 3), .ref (a 7), .ref (a 9), .ref (a 10), .int (nI fn)]))) ∧ (∃ g n, RW c h (a 1) (a 2) g n ∧ HB g n) ∧ (∃ g, h (a 10) = some (.inl (c 1, 12, .inr (.inl g)))) ∧
  BX c (a 3) (a 4) (a 5) (a 6) h ND α f κ h ∧ DK c (a 7) (a 8) (a 9) h ND κd h ∧ (∀ q, κ q ≠ 0 → κd q = 0) ∧ (∀ i, i ≤ 10 → κ (a i) = 0 ∧ κd (a i) = 0) ∧ (∀ i j, i ≤ 10 → j ≤ 10 → a i = a j → i = j) ∧ ∀ q, V q → κ q = 0 ∧ κd q = 0 ∧ (∀ i, i ≤ 10 → q ≠ a i) ∧ h9 q ≠ none ∧ h q = h9 q
/-- all but the bus's -/
def WB (a κ : Nat → Nat) (h : PH) (q : Nat) : Prop := h q ≠ none ∧ κ q = 0 ∧ q ≠ a 3 ∧ q ≠ a 4 ∧ q ≠ a 5 ∧ q ≠ a 6
/-- all but the decoder's -/
def WD (a κ : Nat → Nat) (h : PH) (q : Nat) : Prop := h q ≠ none ∧ κ q = 0 ∧ q ≠ a 7 ∧ q ≠ a 8 ∧ q ≠ a 9
section ZZ
variable {c : Nat → ClassId} {a : Nat → Nat} {h9 : PH} {V : Nat → Prop} {α α' : Nat → Int64} {f f' : Nat → Option Nat} {κ κ' κd κd' : Nat → Nat} {h g : PH}
theorem nn_of {o : Option va_E} {e : va_E} (g : o = some e) : o ≠ none := fun q => by rw [q] at g; exact nomatch g
theorem BX.core {u ma an aa : Nat} {h0 : PH} {W : Nat → Prop} (D : BX c u ma an aa h0 W α f κ h) : BX c u ma an aa h ND α f κ h := by
  obtain ⟨n, n90, D1, D2, D3, D4, D5, D6, D7⟩ := D
  exact ⟨n, n90, D1, D2, D3, D4, D5, D6, fun q hq => hq.elim⟩
theorem BX.nn {u ma an aa : Nat} {h0 : PH} {W : Nat → Prop} (D : BX c u ma an aa h0 W α f κ h) : (h u ≠ none ∧ h ma ≠ none ∧ h an ≠ none ∧ h aa ≠ none) ∧ ∀ q, κ q ≠ 0 → h q ≠ none := by
  obtain ⟨n, n90, ⟨fr, co, D1⟩, D2, D3, ⟨g, R, -⟩, D5, D6, D7⟩ := D
  exact ⟨⟨nn_of D1, nn_of D2, nn_of R.2.1, nn_of R.2.2.1⟩, fun q n => (D5 q).some n⟩
theorem DK.nn {li ra de : Nat} {h0 : PH} {W : Nat → Prop} (D : DK c li ra de h0 W κ h) : (h li ≠ none ∧ h ra ≠ none ∧ h de ≠ none) ∧ ∀ q, κ q ≠ 0 → h q ≠ none := by
  obtain ⟨⟨n, n1, D1⟩, ⟨gr, D2, -⟩, ⟨fr, at_, en, fa, pl, mo, D3, -⟩, D4, -⟩ := D
  exact ⟨⟨nn_of D1, nn_of D2, nn_of D3⟩, fun q n => (D4 q).some n⟩
theorem BX.move {u ma an aa : Nat} {h0 : PH} {W : Nat → Prop} (D : BX c u ma an aa h0 W α f κ h) (e : ∀ q, (q = u ∨ q = ma ∨ q = an ∨ q = aa ∨ κ q ≠ 0) → g q = h q) : BX c u ma an aa g ND α f κ g := by
  obtain ⟨n, n90, ⟨fr, co, D1⟩, D2, D3, ⟨gr, ⟨r1, r2, r3, r4⟩, hb⟩, D5, D6, D7⟩ := D
  refine ⟨n, n90, ⟨fr, co, by rw [e u (Or.inl rfl)]; exact D1⟩, by rw [e ma (Or.inr (Or.inl rfl))]; exact D2, D3, ⟨gr, ⟨r1, by rw [e an (Or.inr (Or.inr (Or.inl rfl)))]; exact r2, by rw [e aa (Or.inr (Or.inr (Or.inr (Or.inl rfl))))]; exact r3, r4⟩, hb⟩, fun q => ?_, D6, fun q hq => hq.elim⟩
  by_cases k : κ q = 0
  · rw [k]; trivial
  · rw [e q (Or.inr (Or.inr (Or.inr (Or.inr k))))]; exact D5 q
theorem DK.core {li ra de : Nat} {h0 : PH} {W : Nat → Prop} (D : DK c li ra de h0 W κ h) : DK c li ra de h ND κ h := by
  obtain ⟨D1, D2, D3, D4, D5, -⟩ := D
  exact ⟨D1, D2, D3, D4, D5, fun q hq => hq.elim⟩
theorem DK.move {li ra de : Nat} {h0 : PH} {W : Nat → Prop} (D : DK c li ra de h0 W κ h) (e : ∀ q, (q = li ∨ q = ra ∨ q = de ∨ κ q ≠ 0) → g q = h q) : DK c li ra de g ND κ g := by
  obtain ⟨⟨n, n1, D1⟩, ⟨gr, D2, D2'⟩, ⟨fr, at_, en, fa, pl, mo, D3, D3'⟩, D4, D5, -⟩ := D
  refine ⟨⟨n, n1, by rw [e li (Or.inl rfl)]; exact D1⟩, ⟨gr, by rw [e ra (Or.inr (Or.inl rfl))]; exact D2, D2'⟩, ⟨fr, at_, en, fa, pl, mo, by rw [e de (Or.inr (Or.inr (Or.inl rfl)))]; exact D3, D3'⟩, fun q => ?_, D5, fun q hq => hq.elim⟩
  by_cases k : κ q = 0
  · rw [k]; trivial
  · rw [e q (Or.inr (Or.inr (Or.inr k)))]; exact D4 q
theorem ZZ.dif (Z : ZZ c a h9 V α f κ κd h) (i j : Nat) (hi : i ≤ 10) (hj : j ≤ 10) (n : i ≠ j) : a i ≠ a j := fun e => n (Z.2.2.2.2.2.2.2.1 i j hi hj e)
theorem ZZ.x (Z : ZZ c a h9 V α f κ κd h) : ∃ fn, fn ≤ 12 ∧ h (a 0) = some (.inr (6, [.ref (a 1), .ref (a 3), .ref (a 7), .ref (a 9), .ref (a 10), .int (nI fn)])) := Z.1
theorem ZZ.buf (Z : ZZ c a h9 V α f κ κd h) : ∃ g n, RW c h (a 1) (a 2) g n ∧ HB g n := Z.2.1
theorem ZZ.fa (Z : ZZ c a h9 V α f κ κd h) : ∃ g, h (a 10) = some (.inl (c 1, 12, .inr (.inl g))) := Z.2.2.1
theorem ZZ.nn (Z : ZZ c a h9 V α f κ κd h) : h (a 0) ≠ none ∧ h (a 1) ≠ none ∧ h (a 2) ≠ none ∧ h (a 10) ≠ none := by
  obtain ⟨⟨fn, -, e0⟩, ⟨g, n, R, -⟩, ⟨g2, e2⟩, -⟩ := Z
  exact ⟨nn_of e0, nn_of R.2.1, nn_of R.2.2.1, nn_of e2⟩
theorem ZZ.bus (Z : ZZ c a h9 V α f κ κd h) : BX c (a 3) (a 4) (a 5) (a 6) h (WB a κ h) α f κ h := by
  obtain ⟨-, -, -, ⟨n, n90, D1, D2, D3, D4, D5, D6, -⟩, -⟩ := Z
  exact ⟨n, n90, D1, D2, D3, D4, D5, D6, fun q hq => ⟨hq.2.1, hq.2.2.1, hq.2.2.2.1, hq.2.2.2.2.1, hq.2.2.2.2.2, hq.1, rfl⟩⟩
theorem ZZ.dec (Z : ZZ c a h9 V α f κ κd h) : DK c (a 7) (a 8) (a 9) h (WD a κd h) κd h := by
  obtain ⟨-, -, -, -, ⟨D1, D2, D3, D4, D5, -⟩, -⟩ := Z
  exact ⟨D1, D2, D3, D4, D5, fun q hq => ⟨hq.2.1, hq.2.2.1, hq.2.2.2.1, hq.2.2.2.2, hq.1, rfl⟩⟩
theorem ZZ.wb (Z : ZZ c a h9 V α f κ κd h) {i : Nat} (hi : i = 0 ∨ i = 1 ∨ i = 2 ∨ i = 7 ∨ i = 8 ∨ i = 9 ∨ i = 10) : WB a κ h (a i) := by
  have h1 := Z.nn
  have h2 := Z.dec.nn.1
  refine ⟨?_, (Z.2.2.2.2.2.2.1 i (by omega)).1, Z.dif i 3 (by omega) (by omega) (by omega), Z.dif i 4 (by omega) (by omega) (by omega), Z.dif i 5 (by omega) (by omega) (by omega), Z.dif i 6 (by omega) (by omega) (by omega)⟩
  rcases hi with rfl | rfl | rfl | rfl | rfl | rfl | rfl
  · exact h1.1
  · exact h1.2.1
  · exact h1.2.2.1
  · exact h2.1
  · exact h2.2.1
  · exact h2.2.2
  · exact h1.2.2.2
theorem ZZ.wd (Z : ZZ c a h9 V α f κ κd h) {i : Nat} (hi : i = 0 ∨ i = 1 ∨ i = 2 ∨ i = 3 ∨ i = 4 ∨ i = 5 ∨ i = 6 ∨ i = 10) : WD a κd h (a i) := by
  have h1 := Z.nn
  have h2 := Z.bus.nn.1
  refine ⟨?_, (Z.2.2.2.2.2.2.1 i (by omega)).2, Z.dif i 7 (by omega) (by omega) (by omega), Z.dif i 8 (by omega) (by omega) (by omega), Z.dif i 9 (by omega) (by omega) (by omega)⟩
  rcases hi with rfl | rfl | rfl | rfl | rfl | rfl | rfl | rfl
  · exact h1.1
  · exact h1.2.1
  · exact h1.2.2.1
  · exact h2.1
  · exact h2.2.1
  · exact h2.2.2.1
  · exact h2.2.2.2
  · exact h1.2.2.2
/-- the bus went on -/
theorem ZZ.ofB (Z : ZZ c a h9 V α f κ κd h) (D : BX c (a 3) (a 4) (a 5) (a 6) h (WB a κ h) α' f' κ' g) (ex : ∀ q, κ' q ≠ 0 → κ q ≠ 0 ∨ h q = none) : ZZ c a h9 V α' f' κ' κd g := by
  have st : ∀ q, WB a κ h q → g q = h q := fun q hq => by obtain ⟨n, n90, -, -, -, -, -, -, D7⟩ := D; exact (D7 q hq).2.2.2.2.2.2
  have wd : ∀ q, κd q ≠ 0 → WB a κ h q := fun q hq => by
    have kq : κ q = 0 := Decidable.byContradiction fun n => hq (Z.2.2.2.2.2.1 q n)
    have ne : ∀ i, i ≤ 10 → q ≠ a i := fun i hi e => hq (by rw [e]; exact (Z.2.2.2.2.2.2.1 i hi).2)
    exact ⟨Z.dec.nn.2 q hq, kq, ne 3 (by omega), ne 4 (by omega), ne 5 (by omega), ne 6 (by omega)⟩
  obtain ⟨⟨fn, f1, e0⟩, ⟨gr, n, ⟨r1, r2, r3, r4⟩, hb⟩, ⟨g2, e2⟩, -, DD, k1, k2, k3, k4⟩ := id Z
  have nn2 := Z.nn
  refine ⟨⟨fn, f1, by rw [st _ (Z.wb (i := 0) (by omega))]; exact e0⟩, ⟨gr, n, ⟨r1, by rw [st _ (Z.wb (i := 1) (by omega))]; exact r2, by rw [st _ (Z.wb (i := 2) (by omega))]; exact r3, r4⟩, hb⟩, ⟨g2, by rw [st _ (Z.wb (i := 10) (by omega))]; exact e2⟩, D.core, DD.move (fun q hq => ?_), fun q n => ?_, fun i hi => ⟨?_, (k2 i hi).2⟩, k3, fun q hq => ?_⟩
  · rcases hq with rfl | rfl | rfl | hq
    · exact st _ (Z.wb (i := 7) (by omega))
    · exact st _ (Z.wb (i := 8) (by omega))
    · exact st _ (Z.wb (i := 9) (by omega))
    · exact st _ (wd q hq)
  · rcases ex q n with n | n
    · exact k1 q n
    · exact Decidable.byContradiction fun n2 => Z.dec.nn.2 q n2 n
  · refine Decidable.byContradiction fun n2 => ?_
    rcases ex _ n2 with n3 | n3
    · exact n3 (k2 i hi).1
    · have b := Z.bus.nn.1
      have d := Z.dec.nn.1
      have : h (a i) ≠ none := by
        rcases (show i = 0 ∨ i = 1 ∨ i = 2 ∨ i = 3 ∨ i = 4 ∨ i = 5 ∨ i = 6 ∨ i = 7 ∨ i = 8 ∨ i = 9 ∨ i = 10 by omega) with rfl | rfl | rfl | rfl | rfl | rfl | rfl | rfl | rfl | rfl | rfl
        · exact nn2.1
        · exact nn2.2.1
        · exact nn2.2.2.1
        · exact b.1
        · exact b.2.1
        · exact b.2.2.1
        · exact b.2.2.2
        · exact d.1
        · exact d.2.1
        · exact d.2.2
        · exact nn2.2.2.2
      exact this n3
  · obtain ⟨x1, x2, x3, x4, x5⟩ := k4 q hq
    have nq : h q ≠ none := by rw [x5]; exact x4
    refine ⟨Decidable.byContradiction fun n => ?_, x2, x3, x4, ?_⟩
    · rcases ex q n with n | n
      · exact n x1
      · exact nq n
    · rw [st q ⟨nq, x1, x3 3 (by omega), x3 4 (by omega), x3 5 (by omega), x3 6 (by omega)⟩]; exact x5
theorem ZZ.ofB0 (Z : ZZ c a h9 V α f κ κd h) (D : BX c (a 3) (a 4) (a 5) (a 6) h (WB a κ h) α' f' κ g) : ZZ c a h9 V α' f' κ κd g := Z.ofB D (fun _ n => Or.inl n)
/-- the decoder went on -/
theorem ZZ.ofD (Z : ZZ c a h9 V α f κ κd h) (D : DK c (a 7) (a 8) (a 9) h (WD a κd h) κd' g) : ZZ c a h9 V α f κ κd' g := by
  have st : ∀ q, WD a κd h q → κd' q = 0 ∧ g q = h q := fun q hq => by have := D.2.2.2.2.2 q hq; exact ⟨this.1, this.2.2.2.2.2⟩
  have wd : ∀ q, κ q ≠ 0 → WD a κd h q := fun q hq => by
    have ne : ∀ i, i ≤ 10 → q ≠ a i := fun i hi e => hq (by rw [e]; exact (Z.2.2.2.2.2.2.1 i hi).1)
    exact ⟨Z.bus.nn.2 q hq, Z.2.2.2.2.2.1 q hq, ne 7 (by omega), ne 8 (by omega), ne 9 (by omega)⟩
  obtain ⟨⟨fn, f1, e0⟩, ⟨gr, n, ⟨r1, r2, r3, r4⟩, hb⟩, ⟨g2, e2⟩, BB, -, k1, k2, k3, k4⟩ := id Z
  refine ⟨⟨fn, f1, by rw [(st _ (Z.wd (i := 0) (by omega))).2]; exact e0⟩, ⟨gr, n, ⟨r1, by rw [(st _ (Z.wd (i := 1) (by omega))).2]; exact r2, by rw [(st _ (Z.wd (i := 2) (by omega))).2]; exact r3, r4⟩, hb⟩, ⟨g2, by rw [(st _ (Z.wd (i := 10) (by omega))).2]; exact e2⟩, BB.move (fun q hq => ?_), D.core, fun q n => (st q (wd q n)).1, fun i hi => ⟨(k2 i hi).1, ?_⟩, k3, fun q hq => ?_⟩
  · rcases hq with rfl | rfl | rfl | rfl | hq
    · exact (st _ (Z.wd (i := 3) (by omega))).2
    · exact (st _ (Z.wd (i := 4) (by omega))).2
    · exact (st _ (Z.wd (i := 5) (by omega))).2
    · exact (st _ (Z.wd (i := 6) (by omega))).2
    · exact (st _ (wd q hq)).2
  · obtain ⟨l1, l2, l3, -⟩ := D.2.2.2.2.1
    rcases (show i = 7 ∨ i = 8 ∨ i = 9 ∨ (i = 0 ∨ i = 1 ∨ i = 2 ∨ i = 3 ∨ i = 4 ∨ i = 5 ∨ i = 6 ∨ i = 10) by omega) with rfl | rfl | rfl | hi
    · exact l1
    · exact l2
    · exact l3
    · exact (st _ (Z.wd hi)).1
  · obtain ⟨x1, x2, x3, x4, x5⟩ := k4 q hq
    have nq : h q ≠ none := by rw [x5]; exact x4
    have := st q ⟨nq, x2, x3 7 (by omega), x3 8 (by omega), x3 9 (by omega)⟩
    exact ⟨x1, this.1, x3, x4, this.2.trans x5⟩
/-- something of its own was written: the object, the buffer, the found ones -/
theorem ZZ.own (Z : ZZ c a h9 V α f κ κd h) (st : ∀ q, q ≠ a 0 → q ≠ a 1 → q ≠ a 2 → q ≠ a 10 → g q = h q) (x : ∃ fn, fn ≤ 12 ∧ g (a 0) = some (.inr (6, [.ref (a 1), .ref (a 3), .ref (a 7), .ref (a 9), .ref (a 10), .int (nI fn)]))) (r : ∃ gr n, RW c g (a 1) (a 2) gr n ∧ HB gr n) (y : ∃ gf, g (a 10) = some (.inl (c 1, 12, .inr (.inl gf)))) : ZZ c a h9 V α f κ κd g := by
  have sa : ∀ i, i ≤ 10 → i ≠ 0 → i ≠ 1 → i ≠ 2 → i ≠ 10 → g (a i) = h (a i) := fun i hi n0 n1 n2 n10 => st _ (Z.dif i 0 hi (by omega) n0) (Z.dif i 1 hi (by omega) n1) (Z.dif i 2 hi (by omega) n2) (Z.dif i 10 hi (by omega) n10)
  obtain ⟨-, -, -, BB, DD, k1, k2, k3, k4⟩ := id Z
  refine ⟨x, r, y, BB.move (fun q hq => ?_), DD.move (fun q hq => ?_), k1, k2, k3, fun q hq => ?_⟩
  · rcases hq with rfl | rfl | rfl | rfl | hq
    · exact sa 3 (by omega) (by omega) (by omega) (by omega) (by omega)
    · exact sa 4 (by omega) (by omega) (by omega) (by omega) (by omega)
    · exact sa 5 (by omega) (by omega) (by omega) (by omega) (by omega)
    · exact sa 6 (by omega) (by omega) (by omega) (by omega) (by omega)
    · have ne : ∀ i, i ≤ 10 → q ≠ a i := fun i hi e => hq (by rw [e]; exact (k2 i hi).1)
      exact st q (ne 0 (by omega)) (ne 1 (by omega)) (ne 2 (by omega)) (ne 10 (by omega))
  · rcases hq with rfl | rfl | rfl | hq
    · exact sa 7 (by omega) (by omega) (by omega) (by omega) (by omega)
    · exact sa 8 (by omega) (by omega) (by omega) (by omega) (by omega)
    · exact sa 9 (by omega) (by omega) (by omega) (by omega) (by omega)
    · have ne : ∀ i, i ≤ 10 → q ≠ a i := fun i hi e => hq (by rw [e]; exact (k2 i hi).2)
      exact st q (ne 0 (by omega)) (ne 1 (by omega)) (ne 2 (by omega)) (ne 10 (by omega))
  · obtain ⟨x1, x2, x3, x4, x5⟩ := k4 q hq
    exact ⟨x1, x2, x3, x4, (st q (x3 0 (by omega)) (x3 1 (by omega)) (x3 2 (by omega)) (x3 10 (by omega))).trans x5⟩
theorem ZZ.putB (Z : ZZ c a h9 V α f κ κd h) {gr : Nat → Int32} {n : Nat} (hn : n ≤ 300) (hb : HB gr n) : ZZ c a h9 V α f κ κd (rowh c h (a 1) (a 2) gr n) := by
  have d := Z.dif
  refine Z.own (fun q n0 n1 n2 n10 => rw_ne n1 n2) ?_ ⟨gr, n, RW.of (d 1 2 (by omega) (by omega) (by omega)) hn, hb⟩ ?_
  · rw [rw_ne (d 0 1 (by omega) (by omega) (by omega)) (d 0 2 (by omega) (by omega) (by omega))]; exact Z.x
  · rw [rw_ne (d 10 1 (by omega) (by omega) (by omega)) (d 10 2 (by omega) (by omega) (by omega))]; exact Z.fa
theorem ZZ.putX (Z : ZZ c a h9 V α f κ κd h) {fn : Nat} (hn : fn ≤ 12) : ZZ c a h9 V α f κ κd (hs h (a 0) (.inr (6, [.ref (a 1), .ref (a 3), .ref (a 7), .ref (a 9), .ref (a 10), .int (nI fn)]))) := by
  have d := Z.dif
  obtain ⟨gr, n, ⟨r1, r2, r3, r4⟩, hb⟩ := Z.buf
  refine Z.own (fun q n0 n1 n2 n10 => hs_ne n0) ⟨fn, hn, hs_self ..⟩ ⟨gr, n, ⟨r1, by rw [hs_ne (d 1 0 (by omega) (by omega) (by omega))]; exact r2, by rw [hs_ne (d 2 0 (by omega) (by omega) (by omega))]; exact r3, r4⟩, hb⟩ ?_
  rw [hs_ne (d 10 0 (by omega) (by omega) (by omega))]; exact Z.fa
theorem ZZ.putF (Z : ZZ c a h9 V α f κ κd h) (gf : Nat → Int64) : ZZ c a h9 V α f κ κd (hs h (a 10) (.inl (c 1, 12, .inr (.inl gf)))) := by
  have d := Z.dif
  obtain ⟨gr, n, ⟨r1, r2, r3, r4⟩, hb⟩ := Z.buf
  refine Z.own (fun q n0 n1 n2 n10 => hs_ne n10) ?_ ⟨gr, n, ⟨r1, by rw [hs_ne (d 1 10 (by omega) (by omega) (by omega))]; exact r2, by rw [hs_ne (d 2 10 (by omega) (by omega) (by omega))]; exact r3, r4⟩, hb⟩ ⟨gf, hs_self ..⟩
  rw [hs_ne (d 0 10 (by omega) (by omega) (by omega))]; exact Z.x
end ZZ
end
section
/-! MeterBus at any time: the calls that throw nothing. -/
theorem HB.bc (f g : Nat → Int32) : ∀ m, HB (bcF f g m) m
  | 0 => fun j hj => absurd hj (Nat.not_lt_zero j)
  | m + 1 => fun j hj => by
    show ∃ v, v < 256 ∧ upd (bcF f g m) m (g m &&& 255) j = nI v
    by_cases e : j = m
    · subst e
      obtain ⟨v, v1, v2⟩ := and255 (g j)
      exact ⟨v, v1, by rw [show upd (bcF f g j) j (g j &&& 255) j = g j &&& 255 from by simp [upd]]; exact v2⟩
    · rw [show upd (bcF f g m) m (g m &&& 255) j = bcF f g m j from by simp [upd, e]]
      exact HB.bc f g m j (by omega)
theorem rCut_le (n : Nat) (i : Int32) (hn : n ≤ 300) : rCut n i ≤ n := by
  unfold rCut
  split
  · rename_i q
    obtain ⟨j, hj, rfl⟩ := nI_of (Int32.not_lt.mpr q.1)
    rw [nI_clamp hj]
    exact Nat.le_of_lt ((nI_ltI hj (by omega)).mp q.2)
  · exact Nat.le_refl _
/-- all is well with the object, somehow -/
def ZE (c : Nat → ClassId) (a : Nat → Nat) (h9 : PH) (V : Nat → Prop) (α : Nat → Int64) (f : Nat → Option Nat) (h : PH) : Prop := ∃ κ κd, ZZ c a h9 V α f κ κd h
section Calls
variable {w : Wd} {c : Nat → ClassId} {a : Nat → Nat} {h9 : PH} {V : Nat → Prop} {h : PH} {α : Nat → Int64} {f : Nat → Option Nat} {κ κd : Nat → Nat}
theorem zz_place (hX : Wx w c) : T w gw yX6_place cX6_place 1 (some .int) 1 (40 * 1) 0 0 [.ref (a 0)] (ZE c a h9 V α f) (fun r g => (∃ v, r = some (.int v)) ∧ ZE c a h9 V α f g) := by
  have hW := hX.1
  refine TA.intro hW rfl (by decide +kernel) (Nat.le_of_ble_eq_true rfl) (fun z C Y E hn h hZ => ?_)
  obtain ⟨κ, κd, Z⟩ := hZ
  obtain ⟨fn, f1, Bx⟩ := Z.x
  obtain ⟨-, -, ⟨fr, at_, en, fa, pl, mo, Bd, -⟩, -⟩ := Z.dec
  refine x_aload_n C dX6_place_0 rfl ?_
  refine e_get C Y kd_X6 3 (by decide) wf_X6_35 dX6_place_1 Bx rfl ?_
  refine u_callV (st := []) C Y hW E.cs (d_placeOf hW Bd) md_X1_lastFaultPlace wi_X1_lastFaultPlace ws_X1_lastFaultPlace wm_X6_182 dX6_place_4 rfl (by decide) (by decide) Bd rfl rfl (by decide) ?_
  exact x_iret C E dX6_place_7 (fun g e => ⟨⟨_, rfl⟩, by rw [e]; exact ⟨κ, κd, Z⟩⟩)
/-- the list cut -/
theorem k_cut (hX : Wx w c) {z : Fx} {cc : ByteArray} {kc ks pc : Nat} {L : List (Option Value)} {st : List Value} {fr lo : Nat} (C : Cx z RX6 cc gw) (Y : Cty z c) (E : Cs z w fr lo) (hf : 1 ≤ fr) (hlo : 40 ≤ lo) (Z : ZZ c a h9 V α f κ κd h) (i : Int32) (d : decode cc pc = .ok (.invokevirtual 158, 3)) (hcat : (st.map fun v => v.category).sum ≤ 8)
    (k : ∀ g, ZZ c a h9 V α f κ κd g → (∀ q, q ≠ a 7 → g q = h q) → X z kc ks (EQ g) (pc + 3) L st) : X z kc ks (EQ h) pc L (.int i :: .ref (a 7) :: st) := by
  obtain ⟨⟨n, n1, Bl⟩, -⟩ := Z.dec
  refine k_callR (kc := kc) (ks := ks) (mc' := 0) (ms' := 0) (st := st) C Y hX.1 E (l_cut hX.1 n1 Bl i) rfl md_X4_cutTo wi_X4_cutTo ws_X4_cutTo wm_X6_158 d rfl (by omega) (by omega) Bl rfl rfl hcat (fun r g hg => ?_)
  obtain ⟨rfl, m, m1, rfl⟩ := hg
  exact k _ (Z.ofD (Z.dec.putL m1)) (fun q n => hs_ne n)
theorem zz_clear (hX : Wx w c) : T w gw yX6_clear cX6_clear 2 (some .int) 1 (40 * 1) 0 0 [.ref (a 0)] (ZE c a h9 V α f) (fun r g => (∃ v, r = some (.int v)) ∧ ZE c a h9 V α f g) := by
  have hW := hX.1
  refine TA.intro hW rfl (by decide +kernel) (Nat.le_of_ble_eq_true rfl) (fun z C Y E hn h hZ => ?_)
  obtain ⟨κ, κd, Z⟩ := hZ
  obtain ⟨fn, f1, Bx⟩ := Z.x
  obtain ⟨⟨n, n1, Bl⟩, -⟩ := Z.dec
  refine x_aload_n C dX6_clear_0 rfl ?_
  refine e_get C Y kd_X6 2 (by decide) wf_X6_26 dX6_clear_1 Bx rfl ?_
  refine u_callV (st := []) C Y hW E.cs (l_size hW Bl) md_X4_size wi_X4_size ws_X4_size wm_X6_181 dX6_clear_4 rfl (by decide) (by decide) Bl rfl rfl (by decide) ?_
  refine o_istore_nE (L' := [some _, some _]) C dX6_clear_7 (by rw [hn]; decide) rfl ?_
  refine x_aload_n C dX6_clear_8 rfl ?_
  refine e_get C Y kd_X6 2 (by decide) wf_X6_26 dX6_clear_9 Bx rfl ?_
  refine x_iconst (v := 0) C dX6_clear_12 (by decide) ?_
  refine k_cut (st := []) hX C Y E.cs (by decide) (by decide) Z 0 dX6_clear_13 (by decide) (fun g Zg _ => ?_)
  refine x_iload_n C dX6_clear_16 rfl ?_
  exact x_iret C E dX6_clear_17 (fun g e => ⟨⟨_, rfl⟩, by rw [e]; exact ⟨κ, κd, Zg⟩⟩)
theorem zz_decode (hX : Wx w c) : T w gw yX6_decode cX6_decode 1 (some .int) 8 (40 * 8) 420 3219 [.ref (a 0)] (ZE c a h9 V α f) (fun r g => (∃ v, r = some (.int v)) ∧ ZE c a h9 V α f g) := by
  have hW := hX.1
  refine TA.intro hW rfl (by decide +kernel) (Nat.le_of_ble_eq_true rfl) (fun z C Y E hn h hZ => ?_)
  obtain ⟨κ, κd, Z⟩ := hZ
  obtain ⟨fn, f1, Bx⟩ := Z.x
  obtain ⟨gb, n, R, hb⟩ := Z.buf
  obtain ⟨-, -, ⟨fr, at_, en, fa, pl, mo, Bd, -⟩, -⟩ := Z.dec
  have n3 := R.2.2.2
  refine x_aload_n C dX6_decode_0 rfl ?_
  refine e_get C Y kd_X6 3 (by decide) wf_X6_35 dX6_decode_1 Bx rfl ?_
  refine x_aload_n C dX6_decode_4 rfl ?_
  refine e_get C Y kd_X6 0 (by decide) wf_X6_10 dX6_decode_5 Bx rfl ?_
  refine X.room (kc' := 0 + Bc (n - 21)) (ks' := 0 + Bs (n - 21)) ?_ (by unfold Bc; omega) (by unfold Bs; omega)
  refine k_callR (kc := 0) (ks := 0) (st := []) C Y hW E.cs (d_reads hX R (Z.wd (i := 1) (by omega)) (Z.wd (i := 2) (by omega)) hb) ⟨κd, Z.dec⟩ md_X1_reads wi_X1_reads ws_X1_reads wm_X6_170 dX6_decode_8 rfl (by decide) (by decide) Bd rfl rfl (by decide) (fun r g hg => ?_)
  obtain ⟨hr, at9, e9, ⟨κ9, D9⟩, -⟩ := hg
  have Zg : ZZ c a h9 V α f κ κ9 g := Z.ofD D9
  obtain ⟨fn, f1, Bx⟩ := Zg.x
  obtain ⟨⟨m, m1, Bl⟩, -, ⟨fr, at_, en, fa, pl, mo, Bd, -⟩, -⟩ := Zg.dec
  have T32 : ∀ v : Int32, X z 0 0 (EQ g) 32 [some (.ref (a 0))] [.int v] := fun v => x_iret C E dX6_decode_32 (fun g e => ⟨⟨_, rfl⟩, by rw [e]; exact ⟨κ, κ9, Zg⟩⟩)
  have T11 : ∀ v : Int32, X z 0 0 (EQ g) 11 [some (.ref (a 0))] [.int v] := fun v => by
    refine x_if_eq (tgt := 24) C dX6_decode_11 (by decide) (fun _ => ?_) (fun _ => ?_)
    · refine x_aload_n C dX6_decode_24 rfl ?_
      refine e_get C Y kd_X6 3 (by decide) wf_X6_35 dX6_decode_25 Bx rfl ?_
      refine u_callV (st := []) C Y hW E.cs (d_faultOf hW rfl Bd) md_X1_lastFault wi_X1_lastFault ws_X1_lastFault wm_X6_174 dX6_decode_28 rfl (by decide) (by decide) Bd rfl rfl (by decide) ?_
      exact x_ineg C dX6_decode_31 (T32 _)
    · refine x_aload_n C dX6_decode_14 rfl ?_
      refine e_get C Y kd_X6 2 (by decide) wf_X6_26 dX6_decode_15 Bx rfl ?_
      refine u_callV (st := []) C Y hW E.cs (l_size hW Bl) md_X4_size wi_X4_size ws_X4_size wm_X6_181 dX6_decode_18 rfl (by decide) (by decide) Bl rfl rfl (by decide) ?_
      exact x_goto (tgt := 32) C dX6_decode_21 (by decide) (T32 _)
  rcases hr with rfl | rfl
  · exact T11 _
  · exact T11 _
/-- a call of the bus -/
theorem k_bus (hX : Wx w c) {z : Fx} {cc : ByteArray} {kc ks pc : Nat} {L : List (Option Value)} {st As stk : List Value} {fr lo : Nat} (C : Cx z RX6 cc gw) (Y : Cty z c) (E : Cs z w fr lo) (Z : ZZ c a h9 V α f κ κd h) {y' : MethodName} {cc' : ByteArray} {n' np index fr' : Nat}
    (M : T w gw y' cc' n' (some .int) fr' (40 * fr') 0 0 (.ref (a 3) :: As) (BX c (a 3) (a 4) (a 5) (a 6) h (WB a κ h) α f κ) (fun r g => (∃ v, r = some (.int v)) ∧ BX c (a 3) (a 4) (a 5) (a 6) h (WB a κ h) α f κ g)) (md : Md gw y' cc' n' (some .int) np) (wi : Cond.instanceMethod y' ∈ gw) (wse : Cond.selects y'.cls y' y' ∈ gw) (wl : Cond.methodLink RX6 index y' ∈ gw) (d : decode cc pc = .ok (.invokevirtual index, 3)) (hn : As.length = np) (hf : fr' + 1 ≤ fr) (hlo : 8 + (n' + 11) + 40 * fr' ≤ lo)
    (hcl : y'.cls = RX0) (hs : stk = As.reverse ++ .ref (a 3) :: st) (hcat : (st.map fun v => v.category).sum ≤ 8) (k : ∀ (v : Int32) (g : PH), ZZ c a h9 V α f κ κd g → X z kc ks (EQ g) (pc + 3) L (.int v :: st)) : X z kc ks (EQ h) pc L stk := by
  obtain ⟨fr1, co, B⟩ := Z.bus.uc
  refine k_callR (kc := kc) (ks := ks) (mc' := 0) (ms' := 0) (st := st) C Y hX.1 E M Z.bus md wi wse wl d hn hf hlo B (by rw [hcl]; rfl) hs hcat (fun r g hg => ?_)
  obtain ⟨⟨v, rfl⟩, D⟩ := hg
  exact k v g (Z.ofB0 D)
theorem zz_send (hX : Wx w c) : T w gw yX6_send cX6_send 2 (some .int) 8 (40 * 8) 0 0 [.ref (a 0)] (ZE c a h9 V α f) (fun r g => (∃ v, r = some (.int v)) ∧ ZE c a h9 V α f g) := by
  have hW := hX.1
  refine TA.intro hW rfl (by decide +kernel) (Nat.le_of_ble_eq_true rfl) (fun z C Y E hn h hZ => ?_)
  obtain ⟨κ, κd, Z⟩ := hZ
  obtain ⟨fn, f1, Bx⟩ := Z.x
  obtain ⟨gb, n, R, hb⟩ := Z.buf
  refine x_aload_n C dX6_send_0 rfl ?_
  refine e_get C Y kd_X6 1 (by decide) wf_X6_19 dX6_send_1 Bx rfl ?_
  refine x_aload_n C dX6_send_4 rfl ?_
  refine e_get C Y kd_X6 0 (by decide) wf_X6_10 dX6_send_5 Bx rfl ?_
  refine k_bus (st := []) hX C Y E.cs Z (u_put hX R (Z.wb (i := 1) (by omega)) (Z.wb (i := 2) (by omega))) md_X0_put wi_X0_put ws_X0_put wm_X6_134 dX6_send_8 rfl (by decide) (by decide) rfl rfl (by decide) (fun v g Zg => ?_)
  obtain ⟨fn, f1, Bx⟩ := Zg.x
  obtain ⟨gb2, n2, R2, hb2⟩ := Zg.buf
  obtain ⟨fr1, co, B⟩ := Zg.bus.uc
  obtain ⟨na, na90, -, -, -, ⟨ga, Ra, hba⟩, -⟩ := Zg.bus
  have d := Zg.dif
  refine o_istore_nE (L' := [some _, some _]) C dX6_send_11 (by rw [hn]; decide) rfl ?_
  refine x_aload_n C dX6_send_12 rfl ?_
  refine e_get C Y kd_X6 0 (by decide) wf_X6_10 dX6_send_13 Bx rfl ?_
  refine x_aload_n C dX6_send_16 rfl ?_
  refine e_get C Y kd_X6 1 (by decide) wf_X6_19 dX6_send_17 Bx rfl ?_
  refine u_callV (st := [.ref (a 1)]) C Y hW E.cs (u_lastAnswer hX B) md_X0_lastAnswer wi_X0_lastAnswer ws_X0_lastAnswer wm_X6_138 dX6_send_20 rfl (by decide) (by decide) B rfl rfl (by simp [Value.category]) ?_
  refine u_callV (st := []) C Y hW E.cs (r_become hW R2 Ra (d 5 1 (by omega) (by omega) (by omega)) (d 5 2 (by omega) (by omega) (by omega)) (d 6 1 (by omega) (by omega) (by omega)) (d 6 2 (by omega) (by omega) (by omega))) md_X5_become wi_X5_become ws_X5_become wm_X6_142 dX6_send_23 rfl (by decide) (by decide) R2.2.1 rfl rfl (by decide) ?_
  refine x_iload_n C dX6_send_26 rfl ?_
  exact x_iret C E dX6_send_27 (fun g e => ⟨⟨_, rfl⟩, by rw [e]; exact ⟨κ, κd, Zg.putB (by omega) (HB.bc _ _ _)⟩⟩)
theorem zz_reset (hX : Wx w c) (mk : Int64) : T w gw yX6_resetSelected cX6_resetSelected 3 none 6 (40 * 6) 0 0 [.ref (a 0), .long mk] (ZE c a h9 V α f) (fun r g => r = none ∧ ZE c a h9 V α f g) := by
  have hW := hX.1
  refine TA.intro hW rfl (by decide +kernel) (Nat.le_of_ble_eq_true rfl) (fun z C Y E hn h hZ => ?_)
  obtain ⟨κ, κd, Z⟩ := hZ
  obtain ⟨fn, f1, Bx⟩ := Z.x
  refine x_aload_n C dX6_resetSelected_0 rfl ?_
  refine e_get C Y kd_X6 1 (by decide) wf_X6_19 dX6_resetSelected_1 Bx rfl ?_
  refine x_bipush (v := 64) C dX6_resetSelected_4 (by decide) ?_
  refine x_sipush (v := 253) C dX6_resetSelected_6 (by decide) ?_
  refine k_bus (st := []) hX C Y E.cs Z (u_putShort hX 64 253) md_X0_putShort wi_X0_putShort ws_X0_putShort wm_X6_166 dX6_resetSelected_9 rfl (by decide) (by decide) rfl rfl (by decide) (fun v g Zg => ?_)
  obtain ⟨fn, f1, Bx⟩ := Zg.x
  refine x_pop C dX6_resetSelected_12 rfl ?_
  refine x_aload_n C dX6_resetSelected_13 rfl ?_
  refine e_get C Y kd_X6 1 (by decide) wf_X6_19 dX6_resetSelected_14 Bx rfl ?_
  refine x_lload_n C dX6_resetSelected_17 rfl ?_
  refine k_bus (st := []) hX C Y E.cs Zg (u_putSelect hX mk) md_X0_putSelect wi_X0_putSelect ws_X0_putSelect wm_X6_217 dX6_resetSelected_18 rfl (by decide) (by decide) rfl rfl (by decide) (fun v2 g2 Zg2 => ?_)
  refine x_pop C dX6_resetSelected_21 rfl ?_
  exact x_vret C E dX6_resetSelected_22 (fun g e => ⟨rfl, by rw [e]; exact ⟨κ, κd, Zg2⟩⟩)
end Calls
end
section
/-! MeterBus at any time: the search. -/
section Search
variable {w : Wd} {c : Nat → ClassId} {a : Nat → Nat} {h9 : PH} {V : Nat → Prop} {h : PH} {α : Nat → Int64} {f : Nat → Option Nat} {κ κd : Nat → Nat}
theorem zz_withPart (hX : Wx w c) (mk : Int64) (n v : Int32) : T w gw yX6_withPart cX6_withPart 5 (some .long) 0 (40 * 0) 0 0 [.long mk, .int n, .int v] (EQ h) (fun r g => (∃ v, r = some (.long v)) ∧ g = h) := by
  have hW := hX.1
  refine TA.intro hW rfl (by decide +kernel) (Nat.le_of_ble_eq_true rfl) (fun z C Y E hn h1 hA => ?_)
  rw [show h1 = h from hA]
  clear hA
  refine x_iload_n C dX6_withPart_0 rfl ?_
  refine x_bipush (v := 8) C dX6_withPart_1 (by decide) ?_
  refine x_icmp_ge (tgt := 33) C dX6_withPart_3 (by decide) (fun _ => ?_) (fun _ => ?_)
  · refine x_bipush (v := 32) C dX6_withPart_33 (by decide) ?_
    refine x_bipush (v := 8) C dX6_withPart_35 (by decide) ?_
    refine x_iload_n C dX6_withPart_37 rfl ?_
    refine x_bipush (v := 8) C dX6_withPart_38 (by decide) ?_
    refine x_isub C dX6_withPart_40 ?_
    refine x_imul C dX6_withPart_41 ?_
    refine x_iadd C dX6_withPart_42 ?_
    refine o_istoreE (L' := [some _, none, some _, some _, some _]) C dX6_withPart_43 (by rw [hn]; decide) rfl ?_
    refine x_lload_n C dX6_withPart_45 rfl ?_
    refine x_ldc2 C wk_X6_234 dX6_withPart_46 ?_
    refine x_iload C dX6_withPart_49 rfl ?_
    refine x_lshl C dX6_withPart_51 ?_
    refine x_ldc2 C wk_X6_146 dX6_withPart_52 ?_
    refine x_lxor C dX6_withPart_55 ?_
    refine x_land C dX6_withPart_56 ?_
    refine x_iload_n C dX6_withPart_57 rfl ?_
    refine x_i2l C dX6_withPart_58 ?_
    refine x_iload C dX6_withPart_59 rfl ?_
    refine x_lshl C dX6_withPart_61 ?_
    refine x_lor C dX6_withPart_62 ?_
    exact x_lret C E dX6_withPart_63 (fun g e => ⟨⟨_, rfl⟩, e⟩)
  · refine x_iconst (v := 4) C dX6_withPart_6 (by decide) ?_
    refine x_bipush (v := 7) C dX6_withPart_7 (by decide) ?_
    refine x_iload_n C dX6_withPart_9 rfl ?_
    refine x_isub C dX6_withPart_10 ?_
    refine x_imul C dX6_withPart_11 ?_
    refine o_istoreE (L' := [some _, none, some _, some _, some _]) C dX6_withPart_12 (by rw [hn]; decide) rfl ?_
    refine x_lload_n C dX6_withPart_14 rfl ?_
    refine x_ldc2 C wk_X6_232 dX6_withPart_15 ?_
    refine x_iload C dX6_withPart_18 rfl ?_
    refine x_lshl C dX6_withPart_20 ?_
    refine x_ldc2 C wk_X6_146 dX6_withPart_21 ?_
    refine x_lxor C dX6_withPart_24 ?_
    refine x_land C dX6_withPart_25 ?_
    refine x_iload_n C dX6_withPart_26 rfl ?_
    refine x_i2l C dX6_withPart_27 ?_
    refine x_iload C dX6_withPart_28 rfl ?_
    refine x_lshl C dX6_withPart_30 ?_
    refine x_lor C dX6_withPart_31 ?_
    exact x_lret C E dX6_withPart_32 (fun g e => ⟨⟨_, rfl⟩, e⟩)
theorem zz_addFound (hX : Wx w c) : T w gw yX6_addFound cX6_addFound 2 none 6 (40 * 6) 0 0 [.ref (a 0)] (ZE c a h9 V α f) (fun r g => r = none ∧ ZE c a h9 V α f g) := by
  have hW := hX.1
  refine TA.intro hW rfl (by decide +kernel) (Nat.le_of_ble_eq_true rfl) (fun z C Y E hn h hZ => ?_)
  obtain ⟨κ, κd, Z⟩ := hZ
  obtain ⟨fn, f1, Bx⟩ := Z.x
  refine x_aload_n C dX6_addFound_0 rfl ?_
  refine e_get C Y kd_X6 1 (by decide) wf_X6_19 dX6_addFound_1 Bx rfl ?_
  refine x_bipush (v := 91) C dX6_addFound_4 (by decide) ?_
  refine x_sipush (v := 253) C dX6_addFound_6 (by decide) ?_
  refine k_bus (st := []) hX C Y E.cs Z (u_putShort hX 91 253) md_X0_putShort wi_X0_putShort ws_X0_putShort wm_X6_166 dX6_addFound_9 rfl (by decide) (by decide) rfl rfl (by decide) (fun v g Zg => ?_)
  obtain ⟨fn, f1, Bx⟩ := Zg.x
  obtain ⟨fr1, co, B⟩ := Zg.bus.uc
  obtain ⟨na, na90, -, -, -, ⟨ga, Ra, hba⟩, -⟩ := Zg.bus
  obtain ⟨gf, Bf⟩ := Zg.fa
  have T57 : X z 0 0 (EQ g) 57 [some (.ref (a 0)), some (.int v)] [] := x_vret C E dX6_addFound_57 (fun g e => ⟨rfl, by rw [e]; exact ⟨κ, κd, Zg⟩⟩)
  refine o_istore_nE (L' := [some _, some _]) C dX6_addFound_12 (by rw [hn]; decide) rfl ?_
  refine x_iload_n C dX6_addFound_13 rfl ?_
  refine x_if_le (tgt := 57) C dX6_addFound_14 (by decide) (fun _ => T57) (fun _ => ?_)
  refine x_aload_n C dX6_addFound_17 rfl ?_
  refine e_get C Y kd_X6 5 (by decide) wf_X6_43 dX6_addFound_18 Bx rfl ?_
  refine x_bipush (v := 12) C dX6_addFound_21 (by decide) ?_
  refine x_icmp_ge (tgt := 57) C dX6_addFound_23 (by decide) (fun _ => T57) (fun c23 => ?_)
  have f2 : fn < 12 := (nI_ltI (by omega) (by decide)).mp (Int32.not_le.mp c23)
  refine x_aload_n C dX6_addFound_26 rfl ?_
  refine e_get C Y kd_X6 4 (by decide) wf_X6_39 dX6_addFound_27 Bx rfl ?_
  refine x_aload_n C dX6_addFound_30 rfl ?_
  refine e_get C Y kd_X6 5 (by decide) wf_X6_43 dX6_addFound_31 Bx rfl ?_
  refine x_aload_n C dX6_addFound_34 rfl ?_
  refine e_get C Y kd_X6 1 (by decide) wf_X6_19 dX6_addFound_35 Bx rfl ?_
  refine u_callV (st := [.int (nI fn), .ref (a 10)]) C Y hW E.cs (u_lastAnswer hX B) md_X0_lastAnswer wi_X0_lastAnswer ws_X0_lastAnswer wm_X6_138 dX6_addFound_38 rfl (by decide) (by decide) B rfl rfl (by simp [Value.category]) ?_
  refine x_bipush (v := 7) C dX6_addFound_41 (by decide) ?_
  refine u_callV (st := [.int (nI fn), .ref (a 10)]) C Y hW E.cs (r_addressAt hW Ra 7 (by decide)) md_X5_addressAt wi_X5_addressAt ws_X5_addressAt wm_X6_236 dX6_addFound_43 rfl (by decide) (by decide) Ra.2.1 rfl rfl (by simp [Value.category]) ?_
  refine e_lst C Y dX6_addFound_46 Bf (vp_in_nI f2 (by decide)) ?_
  have Z2 := Zg.putF (vp_updL gf (nI fn).toNatClampNeg (adA ga na 7 8))
  have Bx2 : hs g (a 10) (.inl (c 1, 12, .inr (.inl (vp_updL gf (nI fn).toNatClampNeg (adA ga na 7 8))))) (a 0) = _ := (hs_ne (Zg.dif 0 10 (by omega) (by omega) (by omega))).trans Bx
  refine x_aload_n C dX6_addFound_47 rfl ?_
  refine x_dup C dX6_addFound_48 rfl ?_
  refine e_get C Y kd_X6 5 (by decide) wf_X6_43 dX6_addFound_49 Bx2 rfl ?_
  refine x_iconst (v := 1) C dX6_addFound_52 (by decide) ?_
  refine x_iadd C dX6_addFound_53 ?_
  rw [nI_1]
  refine e_put C Y kd_X6 5 (by decide) rfl wf_X6_43 dX6_addFound_54 Bx2 (Nat.le_of_ble_eq_true rfl) rfl rfl rfl ?_
  exact x_vret C E dX6_addFound_57 (fun g e => ⟨rfl, by rw [e]; exact ⟨κ, κd, Z2.putX f2⟩⟩)
theorem zz_isSelected (hX : Wx w c) (mk : Int64) : T w gw yX6_isSelected cX6_isSelected 4 (some .boolean) 7 (40 * 7) 0 0 [.ref (a 0), .long mk] (ZE c a h9 V α f) (fun r g => (r = some (.int 0) ∨ r = some (.int 1)) ∧ ZE c a h9 V α f g) := by
  have hW := hX.1
  refine TA.intro hW rfl (by decide +kernel) (Nat.le_of_ble_eq_true rfl) (fun z C Y E hn h hZ => ?_)
  obtain ⟨κ, κd, Z⟩ := hZ
  obtain ⟨fn, f1, Bx⟩ := Z.x
  refine x_aload_n C dX6_isSelected_0 rfl ?_
  refine e_get C Y kd_X6 1 (by decide) wf_X6_19 dX6_isSelected_1 Bx rfl ?_
  refine x_lload_n C dX6_isSelected_4 rfl ?_
  refine k_bus (st := []) hX C Y E.cs Z (u_putSelect hX mk) md_X0_putSelect wi_X0_putSelect ws_X0_putSelect wm_X6_217 dX6_isSelected_5 rfl (by decide) (by decide) rfl rfl (by decide) (fun v g Zg => ?_)
  obtain ⟨fn, f1, Bx⟩ := Zg.x
  refine x_iconst (v := 1) C dX6_isSelected_8 (by decide) ?_
  refine x_icmp_ne (tgt := 16) C dX6_isSelected_9 (by decide) (fun _ => ?_) (fun _ => ?_)
  · refine x_iconst (v := 0) C dX6_isSelected_16 (by decide) ?_
    refine o_istore_nE (L' := [some _, some _, none, some _]) C dX6_isSelected_17 (by rw [hn]; decide) rfl ?_
    refine x_iload_n C dX6_isSelected_18 rfl ?_
    refine x_if_eq (tgt := 27) C dX6_isSelected_19 (by decide) (fun _ => ?_) (fun q => absurd rfl q)
    refine x_iload_n C dX6_isSelected_27 rfl ?_
    exact x_zret C E dX6_isSelected_28 (by decide) (fun g e => ⟨Or.inl rfl, by rw [e]; exact ⟨κ, κd, Zg⟩⟩)
  · refine x_iconst (v := 1) C dX6_isSelected_12 (by decide) ?_
    refine x_goto (tgt := 17) C dX6_isSelected_13 (by decide) ?_
    refine o_istore_nE (L' := [some _, some _, none, some _]) C dX6_isSelected_17 (by rw [hn]; decide) rfl ?_
    refine x_iload_n C dX6_isSelected_18 rfl ?_
    refine x_if_eq (tgt := 27) C dX6_isSelected_19 (by decide) (fun q => absurd q (by decide)) (fun _ => ?_)
    refine x_aload_n C dX6_isSelected_22 rfl ?_
    refine x_lload_n C dX6_isSelected_23 rfl ?_
    refine k_callR (kc := 0) (ks := 0) (mc' := 0) (ms' := 0) (st := []) C Y hW E.cs (zz_reset hX mk) ⟨κ, κd, Zg⟩ md_X6_resetSelected wi_X6_resetSelected ws_X6_resetSelected wm_X6_221 dX6_isSelected_24 rfl (by decide) (by decide) Bx rfl rfl (by decide) (fun r g2 hg => ?_)
    obtain ⟨rfl, Z2⟩ := hg
    refine x_iload_n C dX6_isSelected_27 rfl ?_
    exact x_zret C E dX6_isSelected_28 (by decide) (fun g e => ⟨Or.inr rfl, by rw [e]; exact Z2⟩)
/-- PROBE n, m = 12 - n: as deep as it goes -/
theorem zz_probe (hX : Wx w c) : ∀ (m n : Nat) (mk : Int64), n + m = 12 → T w gw yX6_probe cX6_probe 7 none (7 + m) (40 * (7 + m)) 0 0 [.ref (a 0), .int (nI n), .long mk] (ZE c a h9 V α f) (fun r g => r = none ∧ ZE c a h9 V α f g) := by
  intro m
  induction m with
  | zero =>
    intro n mk hm
    obtain rfl : n = 12 := by omega
    have hW := hX.1
    refine TA.intro hW rfl (by decide +kernel) (Nat.le_of_ble_eq_true rfl) (fun z C Y E hn h hZ => ?_)
    obtain ⟨κ, κd, Z⟩ := hZ
    obtain ⟨fn, f1, Bx⟩ := Z.x
    refine x_aload_n C dX6_probe_0 rfl ?_
    refine e_get C Y kd_X6 1 (by decide) wf_X6_19 dX6_probe_1 Bx rfl ?_
    refine x_lload_n C dX6_probe_4 rfl ?_
    refine k_bus (st := []) hX C Y E.cs Z (u_putSelect hX mk) md_X0_putSelect wi_X0_putSelect ws_X0_putSelect wm_X6_217 dX6_probe_5 rfl (by decide) (by decide) rfl rfl (by decide) (fun v g Zg => ?_)
    obtain ⟨fn, f1, Bx⟩ := Zg.x
    refine o_istoreE (L' := [some _, some _, some _, none, some _, none, none]) C dX6_probe_8 (by rw [hn]; decide) rfl ?_
    refine x_iload C dX6_probe_10 rfl ?_
    refine x_iconst (v := 1) C dX6_probe_12 (by decide) ?_
    have T87 : ∀ (g : PH) (L : List (Option Value)), ZE c a h9 V α f g → X z 0 0 (EQ g) 87 L [] := fun g L Z => x_vret C E dX6_probe_87 (fun g e => ⟨rfl, by rw [e]; exact Z⟩)
    refine x_icmp_ne (tgt := 28) C dX6_probe_13 (by decide) (fun _ => ?_) (fun _ => ?_)
    · refine x_iload C dX6_probe_28 rfl ?_
      refine x_bipush (v := (-2)) C dX6_probe_30 (by decide) ?_
      refine x_icmp_ne (tgt := 87) C dX6_probe_32 (by decide) (fun _ => T87 _ _ ⟨κ, κd, Zg⟩) (fun _ => ?_)
      refine x_iload_n C dX6_probe_35 rfl ?_
      refine x_bipush (v := 12) C dX6_probe_36 (by decide) ?_
      exact x_icmp_ge (tgt := 87) C dX6_probe_38 (by decide) (fun _ => T87 _ _ ⟨κ, κd, Zg⟩) (fun q => absurd (Int32.le_refl _) q)
    · refine x_aload_n C dX6_probe_16 rfl ?_
      refine x_lload_n C dX6_probe_17 rfl ?_
      refine k_callR (kc := 0) (ks := 0) (mc' := 0) (ms' := 0) (st := []) C Y hW E.cs (zz_reset hX mk) ⟨κ, κd, Zg⟩ md_X6_resetSelected wi_X6_resetSelected ws_X6_resetSelected wm_X6_221 dX6_probe_18 rfl (by decide) (by decide) Bx rfl rfl (by decide) (fun r g2 hg => ?_)
      obtain ⟨rfl, κ2, κd2, Z2⟩ := hg
      obtain ⟨fn, f1, Bx⟩ := Z2.x
      refine x_aload_n C dX6_probe_21 rfl ?_
      refine k_callR (kc := 0) (ks := 0) (mc' := 0) (ms' := 0) (st := []) C Y hW E.cs (zz_addFound hX) ⟨κ2, κd2, Z2⟩ md_X6_addFound wi_X6_addFound ws_X6_addFound wm_X6_225 dX6_probe_22 rfl (by decide) (by decide) Bx rfl rfl (by decide) (fun r g3 hg => ?_)
      obtain ⟨rfl, Z3⟩ := hg
      exact x_goto (tgt := 87) C dX6_probe_25 (by decide) (T87 _ _ Z3)
  | succ m ih =>
    intro n mk hm
    have hW := hX.1
    refine TA.intro hW rfl (by decide +kernel) (Nat.le_of_ble_eq_true rfl) (fun z C Y E hn h hZ => ?_)
    obtain ⟨κ, κd, Z⟩ := hZ
    obtain ⟨fn, f1, Bx⟩ := Z.x
    refine x_aload_n C dX6_probe_0 rfl ?_
    refine e_get C Y kd_X6 1 (by decide) wf_X6_19 dX6_probe_1 Bx rfl ?_
    refine x_lload_n C dX6_probe_4 rfl ?_
    refine k_bus (st := []) hX C Y E.cs Z (u_putSelect hX mk) md_X0_putSelect wi_X0_putSelect ws_X0_putSelect wm_X6_217 dX6_probe_5 rfl (by omega) (by omega) rfl rfl (by decide) (fun v g Zg => ?_)
    obtain ⟨fn, f1, Bx⟩ := Zg.x
    refine o_istoreE (L' := [some _, some _, some _, none, some _, none, none]) C dX6_probe_8 (by rw [hn]; decide) rfl ?_
    refine x_iload C dX6_probe_10 rfl ?_
    refine x_iconst (v := 1) C dX6_probe_12 (by decide) ?_
    have T87 : ∀ (g : PH) (L : List (Option Value)), ZE c a h9 V α f g → X z 0 0 (EQ g) 87 L [] := fun g L Z => x_vret C E dX6_probe_87 (fun g e => ⟨rfl, by rw [e]; exact Z⟩)
    refine x_icmp_ne (tgt := 28) C dX6_probe_13 (by decide) (fun _ => ?_) (fun _ => ?_)
    · refine x_iload C dX6_probe_28 rfl ?_
      refine x_bipush (v := (-2)) C dX6_probe_30 (by decide) ?_
      refine x_icmp_ne (tgt := 87) C dX6_probe_32 (by decide) (fun _ => T87 _ _ ⟨κ, κd, Zg⟩) (fun _ => ?_)
      refine x_iload_n C dX6_probe_35 rfl ?_
      refine x_bipush (v := 12) C dX6_probe_36 (by decide) ?_
      refine x_icmp_ge (tgt := 87) C dX6_probe_38 (by decide) (fun _ => T87 _ _ ⟨κ, κd, Zg⟩) (fun _ => ?_)
      have LP : ∀ (r j k : Nat) (g : PH), k ≤ 255 → j + r = k → ZE c a h9 V α f g → X z 0 0 (EQ g) 60 [some (.ref (a 0)), some (.int (nI n)), some (.long mk), none, some (.int v), some (.int (nI k)), some (.int (nI j))] [] := by
        intro r
        induction r with
        | zero =>
          intro j k g hk hj Zg
          obtain rfl : j = k := by omega
          refine x_iload C dX6_probe_60 rfl ?_
          refine x_iload C dX6_probe_62 rfl ?_
          exact x_icmp_ge (tgt := 87) C dX6_probe_64 (by decide) (fun _ => T87 _ _ Zg) (fun q => absurd (Int32.le_refl _) q)
        | succ r ih2 =>
          intro j k g hk hj Zg
          obtain ⟨κ1, κd1, Z1⟩ := Zg
          obtain ⟨fn, f1, Bx⟩ := Z1.x
          refine x_iload C dX6_probe_60 rfl ?_
          refine x_iload C dX6_probe_62 rfl ?_
          refine x_icmp_ge (tgt := 87) C dX6_probe_64 (by decide) (fun _ => T87 _ _ ⟨κ1, κd1, Z1⟩) (fun _ => ?_)
          refine x_aload_n C dX6_probe_67 rfl ?_
          refine x_iload_n C dX6_probe_68 rfl ?_
          refine x_iconst (v := 1) C dX6_probe_69 (by decide) ?_
          refine x_iadd C dX6_probe_70 ?_
          rw [nI_1]
          refine x_lload_n C dX6_probe_71 rfl ?_
          refine x_iload_n C dX6_probe_72 rfl ?_
          refine x_iload C dX6_probe_73 rfl ?_
          refine k_callS (kc := 0) (ks := 0) (mc' := 0) (ms' := 0) (st := [.int (nI (n + 1)), .ref (a 0)]) C E.cs hW.1 gw_good (zz_withPart hX mk (nI n) (nI j)) md_X6_withPart wt_X6_withPart wm_X6_228 dX6_probe_75 rfl (by omega) (by omega) rfl (by simp [Value.category]) (fun r => X.opn (fun g2 hg => ?_))
          obtain ⟨⟨mk2, rfl⟩, rfl⟩ := hg
          refine k_callR (kc := 0) (ks := 0) (mc' := 0) (ms' := 0) (st := []) C Y hW E.cs (ih (n + 1) mk2 (by omega)) ⟨κ1, κd1, Z1⟩ md_X6_probe wi_X6_probe ws_X6_probe wm_X6_148 dX6_probe_78 rfl (by omega) (by omega) Bx rfl rfl (by decide) (fun r g3 hg => ?_)
          obtain ⟨rfl, Z3⟩ := hg
          refine o_iincE (v := nI (j + 1)) (L' := [some _, some _, some _, none, some _, some _, some _]) C dX6_probe_81 rfl (nI_1 j) (by rw [hn]; decide) rfl ?_
          refine x_goto (tgt := 60) C dX6_probe_84 (by decide) ?_
          exact ih2 (j + 1) k _ hk (by omega) Z3
      have T55 : ∀ k : Nat, k ≤ 255 → X z 0 0 (EQ g) 55 [some (.ref (a 0)), some (.int (nI n)), some (.long mk), none, some (.int v), none, none] [.int (nI k)] := fun k hk => by
        refine o_istoreE (L' := [some _, some _, some _, none, some _, some _, none]) C dX6_probe_55 (by rw [hn]; decide) rfl ?_
        refine x_iconst (v := 0) C dX6_probe_57 (by decide) ?_
        refine o_istoreE (L' := [some _, some _, some _, none, some _, some _, some _]) C dX6_probe_58 (by rw [hn]; decide) rfl ?_
        exact LP k 0 k g hk (by omega) ⟨κ, κd, Zg⟩
      refine x_iload_n C dX6_probe_41 rfl ?_
      refine x_bipush (v := 8) C dX6_probe_42 (by decide) ?_
      refine x_icmp_ge (tgt := 52) C dX6_probe_44 (by decide) (fun _ => ?_) (fun _ => ?_)
      · exact x_sipush (v := nI 255) C dX6_probe_52 (by decide) (T55 255 (by omega))
      · refine x_bipush (v := nI 10) C dX6_probe_47 (by decide) ?_
        exact x_goto (tgt := 55) C dX6_probe_49 (by decide) (T55 10 (by omega))
    · refine x_aload_n C dX6_probe_16 rfl ?_
      refine x_lload_n C dX6_probe_17 rfl ?_
      refine k_callR (kc := 0) (ks := 0) (mc' := 0) (ms' := 0) (st := []) C Y hW E.cs (zz_reset hX mk) ⟨κ, κd, Zg⟩ md_X6_resetSelected wi_X6_resetSelected ws_X6_resetSelected wm_X6_221 dX6_probe_18 rfl (by omega) (by omega) Bx rfl rfl (by decide) (fun r g2 hg => ?_)
      obtain ⟨rfl, κ2, κd2, Z2⟩ := hg
      obtain ⟨fn, f1, Bx⟩ := Z2.x
      refine x_aload_n C dX6_probe_21 rfl ?_
      refine k_callR (kc := 0) (ks := 0) (mc' := 0) (ms' := 0) (st := []) C Y hW E.cs (zz_addFound hX) ⟨κ2, κd2, Z2⟩ md_X6_addFound wi_X6_addFound ws_X6_addFound wm_X6_225 dX6_probe_22 rfl (by omega) (by omega) Bx rfl rfl (by decide) (fun r g3 hg => ?_)
      obtain ⟨rfl, Z3⟩ := hg
      exact x_goto (tgt := 87) C dX6_probe_25 (by decide) (T87 _ _ Z3)
theorem zz_search (hX : Wx w c) : T w gw yX6_search cX6_search 1 (some .int) 20 (40 * 20) 0 0 [.ref (a 0)] (ZE c a h9 V α f) (fun r g => (∃ v, r = some (.int v)) ∧ ZE c a h9 V α f g) := by
  have hW := hX.1
  refine TA.intro hW rfl (by decide +kernel) (Nat.le_of_ble_eq_true rfl) (fun z C Y E hn h hZ => ?_)
  obtain ⟨κ, κd, Z⟩ := hZ
  obtain ⟨fn, f1, Bx⟩ := Z.x
  refine x_aload_n C dX6_search_0 rfl ?_
  refine x_iconst (v := 0) C dX6_search_1 (by decide) ?_
  refine e_put C Y kd_X6 5 (by decide) rfl wf_X6_43 dX6_search_2 Bx (Nat.le_of_ble_eq_true rfl) rfl rfl rfl ?_
  have Z1 := Z.putX (fn := 0) (by omega)
  obtain ⟨fn1, f2, Bx1⟩ := Z1.x
  refine x_aload_n C dX6_search_5 rfl ?_
  refine x_iconst (v := 0) C dX6_search_6 (by decide) ?_
  refine x_ldc2 C wk_X6_146 dX6_search_7 ?_
  refine k_callR (kc := 0) (ks := 0) (mc' := 0) (ms' := 0) (st := []) C Y hW E.cs (zz_probe hX 12 0 (-1) rfl) ⟨κ, κd, Z1⟩ md_X6_probe wi_X6_probe ws_X6_probe wm_X6_148 dX6_search_10 rfl (by decide) (by decide) Bx1 rfl rfl (by decide) (fun r g hg => ?_)
  obtain ⟨rfl, κ2, κd2, Z2⟩ := hg
  obtain ⟨fn, f1, Bx⟩ := Z2.x
  refine x_aload_n C dX6_search_13 rfl ?_
  refine e_get C Y kd_X6 5 (by decide) wf_X6_43 dX6_search_14 Bx rfl ?_
  exact x_iret C E dX6_search_17 (fun g e => ⟨⟨_, rfl⟩, by rw [e]; exact ⟨κ2, κd2, Z2⟩⟩)
end Search
end
section
/-! MeterBus at any time: the calls that may throw. -/
theorem HB.add2 {g : Nat → Int32} {n : Nat} (hb : HB g n) (hn : n ≤ 300) (x : Int32) : HB (rAdd g n x) (rNum n) ∧ rNum n ≤ 300 := by
  by_cases q : n < 300
  · rw [show rNum n = n + 1 from if_pos q]
    exact ⟨hb.add q x, q⟩
  · rw [show rNum n = n from if_neg q, show rAdd g n x = g from if_neg q]
    exact ⟨hb, hn⟩
theorem HB.cut {g : Nat → Int32} {n : Nat} (hb : HB g n) (hn : n ≤ 300) (i : Int32) : HB g (rCut n i) ∧ rCut n i ≤ 300 := ⟨fun j hj => hb j (Nat.lt_of_lt_of_le hj (rCut_le n i hn)), Nat.le_trans (rCut_le n i hn) hn⟩
/-- it answers a number -/
def PI (c : Nat → ClassId) (a : Nat → Nat) (h9 : PH) (V : Nat → Prop) (α : Nat → Int64) (f : Nat → Option Nat) (r : Option Value) (g : PH) : Prop := (∃ v, r = some (.int v)) ∧ ZE c a h9 V α f g
section Calls
variable {w : Wd} {c : Nat → ClassId} {a : Nat → Nat} {h9 : PH} {V : Nat → Prop} {h : PH} {α : Nat → Int64} {f : Nat → Option Nat} {κ κd : Nat → Nat}
theorem zz_type (hX : Wx w c) (Z : ZZ c a h9 V α f κ κd h) (b : Int64) (n : Int32) : TCX w yX6_type cX6_type 5 (some .int) 1 6 [.ref (a 0), .long b, .int n] h (PI c a h9 V α f) (fun En g => (En = IAE ∨ En = UOE) ∧ g = h) := by
  have hW := hX.1
  obtain ⟨fn, f1, Bx⟩ := Z.x
  obtain ⟨gb, nb, R, hb⟩ := Z.buf
  refine TCX.intro hX.1 rfl (by decide +kernel) (Nat.le_of_ble_eq_true rfl) (fun z C Y E hn => ?_)
  have T11 : X z 1 6 (EQ h) 11 [some (.ref (a 0)), some (.long b), none, some (.int n), none] [] := u_thr (kc := 0) (ks := 0) hX C E exs_IAE at_51 wc_X6_47 wz_IllegalArgumentException (show (49, "n is not 1 .. 8") ∈ txts by simp [txts]) dX6_type_11 dX6_type_14 dX6_type_15 dX6_type_17 dX6_type_20 (by decide) (fun g e => ⟨Or.inl rfl, e⟩)
  refine x_iload_n C dX6_type_0 rfl ?_
  refine x_iconst (v := 1) C dX6_type_1 (by decide) ?_
  refine x_icmp_lt (tgt := 11) C dX6_type_2 (by decide) (fun c2 => T11) (fun c2 => ?_)
  refine x_iload_n C dX6_type_5 rfl ?_
  refine x_bipush (v := 8) C dX6_type_6 (by decide) ?_
  refine x_icmp_le (tgt := 21) C dX6_type_8 (by decide) (fun c8 => ?_) (fun c8 => T11)
  obtain ⟨m, hm, rfl⟩ := nI_of (x := n) (Int32.not_lt.mpr (Int32.le_trans (by decide) (Int32.not_lt.mp c2)))
  have hm8 : m ≤ 8 := Nat.le_of_not_lt (fun g => absurd (nI_lt g hm) (Int32.not_lt.mpr c8))
  refine x_aload_n C dX6_type_21 rfl ?_
  refine e_get C Y kd_X6 0 (by decide) wf_X6_10 dX6_type_22 Bx rfl ?_
  refine u_callV (st := []) C Y hW E.1 (r_size hW R) md_X5_size wi_X5_size ws_X5_size wm_X6_54 dX6_type_25 rfl (by decide) (by decide) R.2.1 rfl rfl (by decide) ?_
  refine x_iload_n C dX6_type_28 rfl ?_
  refine x_iadd C dX6_type_29 ?_
  refine x_sipush (v := 300) C dX6_type_30 (by decide) ?_
  refine x_icmp_le (tgt := 46) C dX6_type_33 (by decide) (fun _ => ?_) (fun _ => u_thr (kc := 0) (ks := 0) hX C E exs_UOE at_62 wc_X6_58 wz_UnsupportedOperationException (show (60, "the buffer would have more than 300 bytes") ∈ txts by simp [txts]) dX6_type_36 dX6_type_39 dX6_type_40 dX6_type_42 dX6_type_45 (by decide) (fun g e => ⟨Or.inr rfl, e⟩))
  refine E.go C Y (fun z' C Y E hn1 => ?_)
  rw [hn] at hn1
  have hn := hn1
  have LP : ∀ (rem : Nat) (h : PH), rem ≤ 8 → ZZ c a h9 V α f κ κd h → X z' 1 6 (EQ h) 51 [some (.ref (a 0)), some (.long b), none, some (.int (nI m)), some (.int (nI rem - 1))] [] := by
    intro rem
    induction rem with
    | zero =>
      intro h _ Z
      obtain ⟨fn, f1, Bx⟩ := Z.x
      obtain ⟨gb, nb, R, hb⟩ := Z.buf
      refine x_iload C dX6_type_51 rfl ?_
      refine x_if_lt (tgt := 77) C dX6_type_53 (by decide) (fun c53 => ?_) (fun c53 => absurd c53 (not_not_intro (by decide)))
      refine x_aload_n C dX6_type_77 rfl ?_
      refine e_get C Y kd_X6 0 (by decide) wf_X6_10 dX6_type_78 Bx rfl ?_
      refine u_callV (st := []) C Y hW E.cs (r_size hW R) md_X5_size wi_X5_size ws_X5_size wm_X6_54 dX6_type_81 rfl (by decide) (by decide) R.2.1 rfl rfl (by decide) ?_
      exact x_iret C E dX6_type_84 (fun g e => ⟨⟨_, rfl⟩, by rw [e]; exact ⟨κ, κd, Z⟩⟩)
    | succ rem ih =>
      intro h hr Z
      obtain ⟨fn, f1, Bx⟩ := Z.x
      obtain ⟨gb, nb, R, hb⟩ := Z.buf
      have e1 : nI (rem + 1) - 1 = nI rem := by rw [← nI_1]; exact Int32.add_sub_cancel ..
      rw [e1]
      have Za : ∀ x : Int32, ZZ c a h9 V α f κ κd (rowh c h (a 1) (a 2) (rAdd gb nb x) (rNum nb)) := fun x => Z.putB (hb.add2 R.2.2.2 x).2 (hb.add2 R.2.2.2 x).1
      refine x_iload C dX6_type_51 rfl ?_
      refine x_if_lt (tgt := 77) C dX6_type_53 (by decide) (fun c53 => absurd c53 (nI_pos (by omega))) (fun c53 => ?_)
      refine x_aload_n C dX6_type_56 rfl ?_
      refine e_get C Y kd_X6 0 (by decide) wf_X6_10 dX6_type_57 Bx rfl ?_
      refine x_lload_n C dX6_type_60 rfl ?_
      refine x_bipush (v := 8) C dX6_type_61 (by decide) ?_
      refine x_iload C dX6_type_63 rfl ?_
      refine x_imul C dX6_type_65 ?_
      refine x_lushr C dX6_type_66 ?_
      refine x_l2i C dX6_type_67 ?_
      refine u_callV (st := []) C Y hW E.cs (r_add hW R _) md_X5_add wi_X5_add ws_X5_add wm_X6_63 dX6_type_68 rfl (by decide) (by decide) R.2.1 rfl rfl (by decide) ?_
      refine o_iincE (v := nI rem - 1) (L' := [some _, some _, none, some _, some _]) C dX6_type_71 rfl (by rw [Int32.sub_eq_add_neg]; rfl) (by rw [hn]; decide) rfl ?_
      refine x_goto (tgt := 51) C dX6_type_74 (by decide) ?_
      exact ih _ (by omega) (Za _)
  refine x_iload_n C dX6_type_46 rfl ?_
  refine x_iconst (v := 1) C dX6_type_47 (by decide) ?_
  refine x_isub C dX6_type_48 ?_
  refine o_istoreE (L' := [some _, some _, none, some _, some _]) C dX6_type_49 (by rw [hn]; decide) rfl ?_
  exact LP m h hm8 Z
theorem zz_keep (hX : Wx w c) (Z : ZZ c a h9 V α f κ κd h) (n : Int32) : TCX w yX6_keep cX6_keep 2 none 1 6 [.ref (a 0), .int n] h (fun r g => r = none ∧ ZE c a h9 V α f g) (fun En g => En = IAE ∧ g = h) := by
  have hW := hX.1
  obtain ⟨fn, f1, Bx⟩ := Z.x
  obtain ⟨gb, nb, R, hb⟩ := Z.buf
  refine TCX.intro hX.1 rfl (by decide +kernel) (Nat.le_of_ble_eq_true rfl) (fun z C Y E hn => ?_)
  have T15 : X z 1 6 (EQ h) 15 [some (.ref (a 0)), some (.int n)] [] := u_thr (kc := 0) (ks := 0) hX C E exs_IAE at_51 wc_X6_47 wz_IllegalArgumentException (show (67, "the buffer has not so many bytes") ∈ txts by simp [txts]) dX6_keep_15 dX6_keep_18 dX6_keep_19 dX6_keep_21 dX6_keep_24 (by decide) (fun g e => ⟨rfl, e⟩)
  refine x_iload_n C dX6_keep_0 rfl ?_
  refine x_if_lt (tgt := 15) C dX6_keep_1 (by decide) (fun c1 => T15) (fun c1 => ?_)
  refine x_iload_n C dX6_keep_4 rfl ?_
  refine x_aload_n C dX6_keep_5 rfl ?_
  refine e_get C Y kd_X6 0 (by decide) wf_X6_10 dX6_keep_6 Bx rfl ?_
  refine u_callV (st := [.int n]) C Y hW E.1 (r_size hW R) md_X5_size wi_X5_size ws_X5_size wm_X6_54 dX6_keep_9 rfl (by decide) (by decide) R.2.1 rfl rfl (by simp [Value.category]) ?_
  refine x_icmp_le (tgt := 25) C dX6_keep_12 (by decide) (fun c2 => ?_) (fun c2 => T15)
  refine x_aload_n C dX6_keep_25 rfl ?_
  refine e_get C Y kd_X6 0 (by decide) wf_X6_10 dX6_keep_26 Bx rfl ?_
  refine x_iload_n C dX6_keep_29 rfl ?_
  refine u_callV (st := []) C Y hW E.1 (r_cutTo hW R n) md_X5_cutTo wi_X5_cutTo ws_X5_cutTo wm_X6_69 dX6_keep_30 rfl (by decide) (by decide) R.2.1 rfl rfl (by decide) ?_
  exact E.go C Y (fun z' C Y E hn => x_vret C E dX6_keep_33 (fun g e => ⟨rfl, by rw [e]; exact ⟨κ, κd, Z.putB (hb.cut R.2.2.2 _).2 (hb.cut R.2.2.2 _).1⟩⟩))
theorem zz_typed (hX : Wx w c) (Z : ZZ c a h9 V α f κ κd h) (i : Int32) : TCX w yX6_typed cX6_typed 2 (some .int) 1 6 [.ref (a 0), .int i] h (PI c a h9 V α f) (fun En g => En = IOE ∧ g = h) := by
  have hW := hX.1
  obtain ⟨fn, f1, Bx⟩ := Z.x
  obtain ⟨gb, nb, R, hb⟩ := Z.buf
  refine TCX.intro hX.1 rfl (by decide +kernel) (Nat.le_of_ble_eq_true rfl) (fun z C Y E hn => ?_)
  have T15 : X z 1 6 (EQ h) 15 [some (.ref (a 0)), some (.int i)] [] := u_thr (kc := 0) (ks := 0) hX C E exs_IOE at_76 wc_X6_72 wz_IndexOutOfBoundsException (show (74, "no such place") ∈ txts by simp [txts]) dX6_typed_15 dX6_typed_18 dX6_typed_19 dX6_typed_21 dX6_typed_24 (by decide) (fun g e => ⟨rfl, e⟩)
  refine x_iload_n C dX6_typed_0 rfl ?_
  refine x_if_lt (tgt := 15) C dX6_typed_1 (by decide) (fun c1 => T15) (fun c1 => ?_)
  refine x_iload_n C dX6_typed_4 rfl ?_
  refine x_aload_n C dX6_typed_5 rfl ?_
  refine e_get C Y kd_X6 0 (by decide) wf_X6_10 dX6_typed_6 Bx rfl ?_
  refine u_callV (st := [.int i]) C Y hW E.1 (r_size hW R) md_X5_size wi_X5_size ws_X5_size wm_X6_54 dX6_typed_9 rfl (by decide) (by decide) R.2.1 rfl rfl (by simp [Value.category]) ?_
  refine x_icmp_lt (tgt := 25) C dX6_typed_12 (by decide) (fun c2 => ?_) (fun c2 => T15)
  refine x_aload_n C dX6_typed_25 rfl ?_
  refine e_get C Y kd_X6 0 (by decide) wf_X6_10 dX6_typed_26 Bx rfl ?_
  refine x_iload_n C dX6_typed_29 rfl ?_
  refine u_callV (st := []) C Y hW E.1 (r_at hW R i) md_X5_at wi_X5_at ws_X5_at wm_X6_77 dX6_typed_30 rfl (by decide) (by decide) R.2.1 rfl rfl (by decide) ?_
  exact E.go C Y (fun z' C Y E hn => x_iret C E dX6_typed_33 (fun g e => ⟨⟨_, rfl⟩, by rw [e]; exact ⟨κ, κd, Z⟩⟩))
theorem zz_remove (hX : Wx w c) (Z : ZZ c a h9 V α f κ κd h) (k : Int32) : TCX w yX6_remove cX6_remove 3 (some .boolean) 1 6 [.ref (a 0), .int k] h (fun r g => ∃ j, j < 12 ∧ k = nI j ∧ r = some (.int (if f j = none then 0 else 1)) ∧ ZE c a h9 V α (va_up f j none) g) (fun En g => ¬ ((0 : Int32) ≤ k ∧ k < 12) ∧ En = IOE ∧ g = h) := by
  have hW := hX.1
  obtain ⟨fn, f1, Bx⟩ := Z.x
  obtain ⟨fr1, co, B⟩ := Z.bus.uc
  refine TCX.intro hX.1 rfl (by decide +kernel) (Nat.le_of_ble_eq_true rfl) (fun z C Y E hn => ?_)
  refine x_iload_n C dX6_remove_0 rfl ?_
  refine u_callS C hW E.1 (m_isMeterNumber hW k) md_X6_isMeterNumber wt_X6_isMeterNumber wm_X6_81 dX6_remove_1 rfl (by decide) (by decide) rfl (by simp [Value.category]) ?_
  refine x_if_ne (tgt := 17) C dX6_remove_4 (by decide) (fun c1 => ?_) (fun c1 => ?_)
  · have g0 : (0 : Int32) ≤ k ∧ k < 12 := Decidable.of_not_not (fun g => c1 (bI_f g))
    obtain ⟨j, hj, rfl⟩ := nI_of (Int32.not_lt.mpr g0.1)
    have hj2 : j < 12 := (nI_ltI hj (by decide)).mp g0.2
    refine E.go C Y (fun z' C Y E hn1 => ?_)
    rw [hn] at hn1
    have hn := hn1
    have T33 : ∀ v : Int32, v = (if f j = none then 0 else 1) → narrow .boolean (.int v) = .int v → X z' 1 6 (EQ h) 33 [some (.ref (a 0)), some (.int (nI j)), none] [.int v] := fun v ev nv => by
      refine o_istore_nE (L' := [some _, some _, some _]) C dX6_remove_33 (by rw [hn]; decide) rfl ?_
      refine x_aload_n C dX6_remove_34 rfl ?_
      refine e_get C Y kd_X6 1 (by decide) wf_X6_19 dX6_remove_35 Bx rfl ?_
      refine x_iload_n C dX6_remove_38 rfl ?_
      refine x_null C dX6_remove_39 ?_
      refine u_callV (st := []) C Y hW E.cs (u_plugN hX Z.bus hj2) md_X0_plug wi_X0_plug ws_X0_plug wm_X6_110 dX6_remove_40 rfl (by decide) (by decide) B rfl rfl (by decide) ?_
      refine x_iload_n C dX6_remove_43 rfl ?_
      refine x_zret C E dX6_remove_44 nv (fun g e => ⟨j, hj2, rfl, by rw [ev], ?_⟩)
      rw [e]
      obtain ⟨n, n90, D⟩ := Z.bus
      refine ⟨κ, κd, Z.ofB0 ⟨n, n90, D.plug (fun q m hq => ?_)⟩⟩
      by_cases e1 : q = j
      · subst e1; rw [va_up_self] at hq; exact nomatch hq
      · rw [va_up_ne _ _ e1] at hq; exact D.2.2.1 q m hq
    refine x_aload_n C dX6_remove_17 rfl ?_
    refine e_get C Y kd_X6 1 (by decide) wf_X6_19 dX6_remove_18 Bx rfl ?_
    refine x_iload_n C dX6_remove_21 rfl ?_
    refine u_callV (st := []) C Y hW E.cs (u_meterAt hX Z.bus (nI j)) md_X0_meterAt wi_X0_meterAt ws_X0_meterAt wm_X6_114 dX6_remove_22 rfl (by decide) (by decide) B rfl rfl (by decide) ?_
    rw [fk_nI f hj2]
    cases e : f j with
    | none =>
      refine x_ifnullN (tgt := 32) C dX6_remove_25 (by decide) ?_
      exact x_iconst (v := 0) C dX6_remove_32 (by decide) (T33 0 (by rw [e]; rfl) (by decide))
    | some m =>
      refine x_ifnull C dX6_remove_25 ?_
      refine x_iconst (v := 1) C dX6_remove_28 (by decide) ?_
      exact x_goto (tgt := 33) C dX6_remove_29 (by decide) (T33 1 (by rw [e]; rfl) (by decide))
  · exact u_thr (kc := 0) (ks := 0) hX C E exs_IOE at_76 wc_X6_72 wz_IndexOutOfBoundsException (show (85, "no such meter") ∈ txts by simp [txts]) dX6_remove_7 dX6_remove_10 dX6_remove_11 dX6_remove_13 dX6_remove_16 (by decide) (fun g e => ⟨fun q => absurd (bI_t q) (by rw [c1]; decide), rfl, e⟩)
theorem zz_state (hX : Wx w c) (Z : ZZ c a h9 V α f κ κd h) (k x : Int32) : TCX w yX6_state cX6_state 4 (some .int) 1 6 [.ref (a 0), .int k, .int x] h (PI c a h9 V α f) (fun En g => En = IOE ∧ g = h) := by
  have hW := hX.1
  obtain ⟨fn, f1, Bx⟩ := Z.x
  obtain ⟨fr1, co, B⟩ := Z.bus.uc
  refine TCX.intro hX.1 rfl (by decide +kernel) (Nat.le_of_ble_eq_true rfl) (fun z C Y E hn => ?_)
  have T17 : X z 1 6 (EQ h) 17 [some (.ref (a 0)), some (.int k), some (.int x), none] [] := u_thr (kc := 0) (ks := 0) hX C E exs_IOE at_76 wc_X6_72 wz_IndexOutOfBoundsException (show (129, "no such meter or what") ∈ txts by simp [txts]) dX6_state_17 dX6_state_20 dX6_state_21 dX6_state_23 dX6_state_26 (by decide) (fun g e => ⟨rfl, e⟩)
  refine x_iload_n C dX6_state_0 rfl ?_
  refine u_callS C hW E.1 (m_isMeterNumber hW k) md_X6_isMeterNumber wt_X6_isMeterNumber wm_X6_81 dX6_state_1 rfl (by decide) (by decide) rfl (by simp [Value.category]) ?_
  refine x_if_eq (tgt := 17) C dX6_state_4 (by decide) (fun c4 => T17) (fun c4 => ?_)
  refine x_iload_n C dX6_state_7 rfl ?_
  refine x_if_lt (tgt := 17) C dX6_state_8 (by decide) (fun c8 => T17) (fun c8 => ?_)
  refine x_iload_n C dX6_state_11 rfl ?_
  refine x_bipush (v := 6) C dX6_state_12 (by decide) ?_
  refine x_icmp_le (tgt := 27) C dX6_state_14 (by decide) (fun c14 => ?_) (fun c14 => T17)
  refine E.go C Y (fun z' C Y E hn1 => ?_)
  rw [hn] at hn1
  have hn := hn1
  refine x_aload_n C dX6_state_27 rfl ?_
  refine e_get C Y kd_X6 1 (by decide) wf_X6_19 dX6_state_28 Bx rfl ?_
  refine x_iload_n C dX6_state_31 rfl ?_
  refine u_callV (st := []) C Y hW E.cs (u_meterAt hX Z.bus k) md_X0_meterAt wi_X0_meterAt ws_X0_meterAt wm_X6_114 dX6_state_32 rfl (by decide) (by decide) B rfl rfl (by decide) ?_
  cases e : fk f k with
  | none =>
    refine o_astore_nN (L' := [some _, some _, some _, some _]) C dX6_state_35 (by rw [hn]; decide) rfl ?_
    refine x_aload_nN C dX6_state_36 rfl ?_
    refine x_ifnonnullN C dX6_state_37 ?_
    refine x_iconst (v := 0) C dX6_state_40 (by decide) ?_
    refine x_goto (tgt := 49) C dX6_state_41 (by decide) ?_
    exact x_iret C E dX6_state_49 (fun g e => ⟨⟨_, rfl⟩, by rw [e]; exact ⟨κ, κd, Z⟩⟩)
  | some m =>
    have hm : κ m = 1 := by
      obtain ⟨n, n90, D⟩ := Z.bus
      unfold fk at e
      split at e
      · exact nomatch e
      · exact D.2.2.1 _ m e
    obtain ⟨n, n90, D⟩ := Z.bus
    obtain ⟨pr, se, pt, bt, ac, pg, sz, Bm, -⟩ := D.me hm
    refine o_astore_nE (L' := [some _, some _, some _, some _]) C dX6_state_35 (by rw [hn]; decide) rfl ?_
    refine x_aload_n C dX6_state_36 rfl ?_
    refine x_ifnonnull (tgt := 44) C dX6_state_37 (by decide) ?_
    refine x_aload_n C dX6_state_44 rfl ?_
    refine x_iload_n C dX6_state_45 rfl ?_
    refine k_callR (kc := 1) (ks := 6) (mc' := 0) (ms' := 0) (st := []) C Y hW E.cs (t_detail hX Z.bus hm x) rfl md_X2_detail wi_X2_detail ws_X2_detail wm_X6_131 dX6_state_46 rfl (by decide) (by decide) Bm rfl rfl (by decide) (fun r g hg => ?_)
    obtain ⟨eg, v, rfl⟩ := hg
    rw [eg]
    exact x_iret C E dX6_state_49 (fun g e => ⟨⟨_, rfl⟩, by rw [e]; exact ⟨κ, κd, Z⟩⟩)
theorem zz_page (hX : Wx w c) (Z : ZZ c a h9 V α f κ κd h) (k i : Int32) : TCX w yX6_page cX6_page 4 (some .int) 1 6 [.ref (a 0), .int k, .int i] h (PI c a h9 V α f) (fun En g => (En = IOE ∨ En = UOE) ∧ g = h) := by
  have hW := hX.1
  obtain ⟨fn, f1, Bx⟩ := Z.x
  obtain ⟨fr1, co, B⟩ := Z.bus.uc
  obtain ⟨gb, nb, R, hb⟩ := Z.buf
  refine TCX.intro hX.1 rfl (by decide +kernel) (Nat.le_of_ble_eq_true rfl) (fun z C Y E hn => ?_)
  have T22 : ∀ l : Option Value, X z 1 6 (EQ h) 22 [some (.ref (a 0)), some (.int k), some (.int i), l] [] := fun l => u_thr (kc := 0) (ks := 0) hX C E exs_IOE at_76 wc_X6_72 wz_IndexOutOfBoundsException (show (118, "no such meter or page") ∈ txts by simp [txts]) dX6_page_22 dX6_page_25 dX6_page_26 dX6_page_28 dX6_page_31 (by decide) (fun g e => ⟨Or.inl rfl, e⟩)
  refine x_aload_n C dX6_page_0 rfl ?_
  refine e_get C Y kd_X6 1 (by decide) wf_X6_19 dX6_page_1 Bx rfl ?_
  refine x_iload_n C dX6_page_4 rfl ?_
  refine u_callV (st := []) C Y hW E.1 (u_meterAt hX Z.bus k) md_X0_meterAt wi_X0_meterAt ws_X0_meterAt wm_X6_114 dX6_page_5 rfl (by decide) (by decide) B rfl rfl (by decide) ?_
  cases e : fk f k with
  | none =>
    refine o_astore_nN (L' := [some _, some _, some _, some _]) C dX6_page_8 (by rw [hn]; decide) rfl ?_
    refine x_aload_nN C dX6_page_9 rfl ?_
    exact x_ifnullN (tgt := 22) C dX6_page_10 (by decide) (T22 _)
  | some m =>
    have hm : κ m = 1 := by
      obtain ⟨n, n90, D⟩ := Z.bus
      unfold fk at e
      split at e
      · exact nomatch e
      · exact D.2.2.1 _ m e
    refine o_astore_nE (L' := [some _, some _, some _, some _]) C dX6_page_8 (by rw [hn]; decide) rfl ?_
    refine x_aload_n C dX6_page_9 rfl ?_
    refine x_ifnull C dX6_page_10 ?_
    refine x_iload_n C dX6_page_13 rfl ?_
    refine x_if_lt (tgt := 22) C dX6_page_14 (by decide) (fun _ => T22 _) (fun c14 => ?_)
    refine x_iload_n C dX6_page_17 rfl ?_
    refine x_iconst (v := 3) C dX6_page_18 (by decide) ?_
    refine x_icmp_lt (tgt := 32) C dX6_page_19 (by decide) (fun c19 => ?_) (fun _ => T22 _)
    obtain ⟨j, hj, rfl⟩ := nI_of c14
    have hj3 : j < 3 := (nI_ltI hj (by decide)).mp c19
    refine x_aload_n C dX6_page_32 rfl ?_
    refine e_get C Y kd_X6 0 (by decide) wf_X6_10 dX6_page_33 Bx rfl ?_
    refine u_callV (st := []) C Y hW E.1 (r_size hW R) md_X5_size wi_X5_size ws_X5_size wm_X6_54 dX6_page_36 rfl (by decide) (by decide) R.2.1 rfl rfl (by decide) ?_
    refine x_bipush (v := 60) C dX6_page_39 (by decide) ?_
    refine x_icmp_le (tgt := 54) C dX6_page_41 (by decide) (fun _ => ?_) (fun _ => u_thr (kc := 0) (ks := 0) hX C E exs_UOE at_62 wc_X6_58 wz_UnsupportedOperationException (show (120, "the buffer has more than 60 bytes") ∈ txts by simp [txts]) dX6_page_44 dX6_page_47 dX6_page_48 dX6_page_50 dX6_page_53 (by decide) (fun g e => ⟨Or.inr rfl, e⟩))
    refine E.go C Y (fun z' C Y E hn1 => ?_)
    have Bm : ∃ vs, h m = some (.inr (2, vs)) := by
      obtain ⟨n, n90, D⟩ := Z.bus
      obtain ⟨pr, se, pt, bt, ac, pg, sz, Bm, -⟩ := D.me hm
      exact ⟨_, Bm⟩
    obtain ⟨vs, Bm⟩ := Bm
    refine x_aload_n C dX6_page_54 rfl ?_
    refine x_iload_n C dX6_page_55 rfl ?_
    refine x_aload_n C dX6_page_56 rfl ?_
    refine e_get C Y kd_X6 0 (by decide) wf_X6_10 dX6_page_57 Bx rfl ?_
    refine k_callR (kc := 1) (ks := 6) (mc' := 0) (ms' := 0) (st := []) C Y hW E.cs (t_setPage hX hm R (Z.wb (i := 1) (by omega)) (Z.wb (i := 2) (by omega)) hj3) Z.bus md_X2_setPage wi_X2_setPage ws_X2_setPage wm_X6_122 dX6_page_60 rfl (by decide) (by decide) Bm rfl rfl (by decide) (fun r g hg => ?_)
    obtain ⟨rfl, Dg⟩ := hg
    have Zg := Z.ofB0 Dg
    obtain ⟨fn, f1, Bx⟩ := Zg.x
    obtain ⟨gb, nb, R, hb⟩ := Zg.buf
    refine x_aload_n C dX6_page_63 rfl ?_
    refine e_get C Y kd_X6 0 (by decide) wf_X6_10 dX6_page_64 Bx rfl ?_
    refine x_iconst (v := 0) C dX6_page_67 (by decide) ?_
    refine u_callV (st := []) C Y hW E.cs (r_cutTo hW R 0) md_X5_cutTo wi_X5_cutTo ws_X5_cutTo wm_X6_69 dX6_page_68 rfl (by decide) (by decide) R.2.1 rfl rfl (by decide) ?_
    have Z2 := Zg.putB (hb.cut R.2.2.2 0).2 (hb.cut R.2.2.2 0).1
    obtain ⟨n, n90, D⟩ := Z2.bus
    obtain ⟨pr, se, pt, bt, ac, pg, sz, Bm, k1, k2, -⟩ := D.me hm
    obtain ⟨s, Bs⟩ := D.sz k2
    refine x_aload_n C dX6_page_71 rfl ?_
    refine u_callV (st := []) C Y hW E.cs (t_pageNumber hW Bm Bs) md_X2_pageNumber wi_X2_pageNumber ws_X2_pageNumber wm_X6_126 dX6_page_72 rfl (by decide) (by decide) Bm rfl rfl (by decide) ?_
    exact x_iret C E dX6_page_75 (fun g e => ⟨⟨_, rfl⟩, by rw [e]; exact ⟨κ, κd, Z2⟩⟩)
end Calls
end
