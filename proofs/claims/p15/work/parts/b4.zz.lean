/-! A MeterBus and all that it owns. -/
def ND (_ : Nat) : Prop := False
/-- a 0 the object, a 1, a 2 the buffer, a 3 .. a 6 the bus, a 7, a 8 the list, a 9 the decoder, a 10 the found ones -/
def ZZ (c : Nat → ClassId) (a : Nat → Nat) (h9 : PH) (V : Nat → Prop) (α : Nat → Int64) (f : Nat → Option Nat) (κ κd : Nat → Nat) (h : PH) : Prop :=
  (∃ fn, fn ≤ 12 ∧ h (a 0) = some (.inr (6, [.ref (a 1), .ref (a 3), .ref (a 7), .ref (a 9), .ref (a 10), .int (nI fn)]))) ∧ (∃ g n, RW c h (a 1) (a 2) g n ∧ HB g n) ∧ (∃ g, h (a 10) = some (.inl (c 1, 12, .inr (.inl g)))) ∧
  BX c (a 3) (a 4) (a 5) (a 6) h ND α f κ h ∧ DK c (a 7) (a 8) (a 9) h ND κd h ∧ (∀ q, κ q ≠ 0 → κd q = 0) ∧ (∀ i, i ≤ 10 → κ (a i) = 0 ∧ κd (a i) = 0) ∧ (∀ i j, i ≤ 10 → j ≤ 10 → a i = a j → i = j) ∧ ∀ q, V q → κ q = 0 ∧ κd q = 0 ∧ (∀ i, i ≤ 10 → q ≠ a i) ∧ h9 q ≠ none ∧ h q = h9 q
/-- all but the bus's -/
def WB (a κ : Nat → Nat) (h : PH) (q : Nat) : Prop := h q ≠ none ∧ κ q = 0 ∧ q ≠ a 3 ∧ q ≠ a 4 ∧ q ≠ a 5 ∧ q ≠ a 6
/-- all but the decoder's -/
def WD (a κ : Nat → Nat) (h : PH) (q : Nat) : Prop := h q ≠ none ∧ κ q = 0 ∧ q ≠ a 7 ∧ q ≠ a 8 ∧ q ≠ a 9
section ZZ
variable {c : Nat → ClassId} {a : Nat → Nat} {h9 : PH} {V : Nat → Prop} {α α' : Nat → Int64} {f f' : Nat → Option Nat} {κ κ' κd κd' : Nat → Nat} {h g : PH}
theorem nn_of {o : Option va_E} {e : va_E} (g : o = some e) : o ≠ none := fun q => by rw [q] at g; exact nomatch g
theorem BX.core {u ma an aa : Nat} {h0 : PH} {W : Nat → Prop} (D : BX c u ma an aa h0 W α f κ h) : BX c u ma an aa h ND α f κ h := by
  obtain ⟨n, n90, D1, D2, D3, D4, D5, D6, D7⟩ := D
  exact ⟨n, n90, D1, D2, D3, D4, D5, D6, fun q hq => hq.elim⟩
theorem BX.nn {u ma an aa : Nat} {h0 : PH} {W : Nat → Prop} (D : BX c u ma an aa h0 W α f κ h) : (h u ≠ none ∧ h ma ≠ none ∧ h an ≠ none ∧ h aa ≠ none) ∧ ∀ q, κ q ≠ 0 → h q ≠ none := by
  obtain ⟨n, n90, ⟨fr, co, D1⟩, D2, D3, ⟨g, R, -⟩, D5, D6, D7⟩ := D
  exact ⟨⟨nn_of D1, nn_of D2, nn_of R.2.1, nn_of R.2.2.1⟩, fun q n => (D5 q).some n⟩
theorem DK.nn {li ra de : Nat} {h0 : PH} {W : Nat → Prop} (D : DK c li ra de h0 W κ h) : (h li ≠ none ∧ h ra ≠ none ∧ h de ≠ none) ∧ ∀ q, κ q ≠ 0 → h q ≠ none := by
  obtain ⟨⟨n, n1, D1⟩, ⟨gr, D2, -⟩, ⟨fr, at_, en, fa, pl, mo, D3, -⟩, D4, -⟩ := D
  exact ⟨⟨nn_of D1, nn_of D2, nn_of D3⟩, fun q n => (D4 q).some n⟩
theorem BX.move {u ma an aa : Nat} {h0 : PH} {W : Nat → Prop} (D : BX c u ma an aa h0 W α f κ h) (e : ∀ q, (q = u ∨ q = ma ∨ q = an ∨ q = aa ∨ κ q ≠ 0) → g q = h q) : BX c u ma an aa g ND α f κ g := by
  obtain ⟨n, n90, ⟨fr, co, D1⟩, D2, D3, ⟨gr, ⟨r1, r2, r3, r4⟩, hb⟩, D5, D6, D7⟩ := D
  refine ⟨n, n90, ⟨fr, co, by rw [e u (Or.inl rfl)]; exact D1⟩, by rw [e ma (Or.inr (Or.inl rfl))]; exact D2, D3, ⟨gr, ⟨r1, by rw [e an (Or.inr (Or.inr (Or.inl rfl)))]; exact r2, by rw [e aa (Or.inr (Or.inr (Or.inr (Or.inl rfl))))]; exact r3, r4⟩, hb⟩, fun q => ?_, D6, fun q hq => hq.elim⟩
  by_cases k : κ q = 0
  · rw [k]; trivial
  · rw [e q (Or.inr (Or.inr (Or.inr (Or.inr k))))]; exact D5 q
theorem DK.core {li ra de : Nat} {h0 : PH} {W : Nat → Prop} (D : DK c li ra de h0 W κ h) : DK c li ra de h ND κ h := by
  obtain ⟨D1, D2, D3, D4, D5, -⟩ := D
  exact ⟨D1, D2, D3, D4, D5, fun q hq => hq.elim⟩
theorem DK.move {li ra de : Nat} {h0 : PH} {W : Nat → Prop} (D : DK c li ra de h0 W κ h) (e : ∀ q, (q = li ∨ q = ra ∨ q = de ∨ κ q ≠ 0) → g q = h q) : DK c li ra de g ND κ g := by
  obtain ⟨⟨n, n1, D1⟩, ⟨gr, D2, D2'⟩, ⟨fr, at_, en, fa, pl, mo, D3, D3'⟩, D4, D5, -⟩ := D
  refine ⟨⟨n, n1, by rw [e li (Or.inl rfl)]; exact D1⟩, ⟨gr, by rw [e ra (Or.inr (Or.inl rfl))]; exact D2, D2'⟩, ⟨fr, at_, en, fa, pl, mo, by rw [e de (Or.inr (Or.inr (Or.inl rfl)))]; exact D3, D3'⟩, fun q => ?_, D5, fun q hq => hq.elim⟩
  by_cases k : κ q = 0
  · rw [k]; trivial
  · rw [e q (Or.inr (Or.inr (Or.inr k)))]; exact D4 q
theorem ZZ.dif (Z : ZZ c a h9 V α f κ κd h) (i j : Nat) (hi : i ≤ 10) (hj : j ≤ 10) (n : i ≠ j) : a i ≠ a j := fun e => n (Z.2.2.2.2.2.2.2.1 i j hi hj e)
theorem ZZ.x (Z : ZZ c a h9 V α f κ κd h) : ∃ fn, fn ≤ 12 ∧ h (a 0) = some (.inr (6, [.ref (a 1), .ref (a 3), .ref (a 7), .ref (a 9), .ref (a 10), .int (nI fn)])) := Z.1
theorem ZZ.buf (Z : ZZ c a h9 V α f κ κd h) : ∃ g n, RW c h (a 1) (a 2) g n ∧ HB g n := Z.2.1
theorem ZZ.fa (Z : ZZ c a h9 V α f κ κd h) : ∃ g, h (a 10) = some (.inl (c 1, 12, .inr (.inl g))) := Z.2.2.1
theorem ZZ.nn (Z : ZZ c a h9 V α f κ κd h) : h (a 0) ≠ none ∧ h (a 1) ≠ none ∧ h (a 2) ≠ none ∧ h (a 10) ≠ none := by
  obtain ⟨⟨fn, -, e0⟩, ⟨g, n, R, -⟩, ⟨g2, e2⟩, -⟩ := Z
  exact ⟨nn_of e0, nn_of R.2.1, nn_of R.2.2.1, nn_of e2⟩
theorem ZZ.bus (Z : ZZ c a h9 V α f κ κd h) : BX c (a 3) (a 4) (a 5) (a 6) h (WB a κ h) α f κ h := by
  obtain ⟨-, -, -, ⟨n, n90, D1, D2, D3, D4, D5, D6, -⟩, -⟩ := Z
  exact ⟨n, n90, D1, D2, D3, D4, D5, D6, fun q hq => ⟨hq.2.1, hq.2.2.1, hq.2.2.2.1, hq.2.2.2.2.1, hq.2.2.2.2.2, hq.1, rfl⟩⟩
theorem ZZ.dec (Z : ZZ c a h9 V α f κ κd h) : DK c (a 7) (a 8) (a 9) h (WD a κd h) κd h := by
  obtain ⟨-, -, -, -, ⟨D1, D2, D3, D4, D5, -⟩, -⟩ := Z
  exact ⟨D1, D2, D3, D4, D5, fun q hq => ⟨hq.2.1, hq.2.2.1, hq.2.2.2.1, hq.2.2.2.2, hq.1, rfl⟩⟩
theorem ZZ.wb (Z : ZZ c a h9 V α f κ κd h) {i : Nat} (hi : i = 0 ∨ i = 1 ∨ i = 2 ∨ i = 7 ∨ i = 8 ∨ i = 9 ∨ i = 10) : WB a κ h (a i) := by
  have h1 := Z.nn
  have h2 := Z.dec.nn.1
  refine ⟨?_, (Z.2.2.2.2.2.2.1 i (by omega)).1, Z.dif i 3 (by omega) (by omega) (by omega), Z.dif i 4 (by omega) (by omega) (by omega), Z.dif i 5 (by omega) (by omega) (by omega), Z.dif i 6 (by omega) (by omega) (by omega)⟩
  rcases hi with rfl | rfl | rfl | rfl | rfl | rfl | rfl
  · exact h1.1
  · exact h1.2.1
  · exact h1.2.2.1
  · exact h2.1
  · exact h2.2.1
  · exact h2.2.2
  · exact h1.2.2.2
theorem ZZ.wd (Z : ZZ c a h9 V α f κ κd h) {i : Nat} (hi : i = 0 ∨ i = 1 ∨ i = 2 ∨ i = 3 ∨ i = 4 ∨ i = 5 ∨ i = 6 ∨ i = 10) : WD a κd h (a i) := by
  have h1 := Z.nn
  have h2 := Z.bus.nn.1
  refine ⟨?_, (Z.2.2.2.2.2.2.1 i (by omega)).2, Z.dif i 7 (by omega) (by omega) (by omega), Z.dif i 8 (by omega) (by omega) (by omega), Z.dif i 9 (by omega) (by omega) (by omega)⟩
  rcases hi with rfl | rfl | rfl | rfl | rfl | rfl | rfl | rfl
  · exact h1.1
  · exact h1.2.1
  · exact h1.2.2.1
  · exact h2.1
  · exact h2.2.1
  · exact h2.2.2.1
  · exact h2.2.2.2
  · exact h1.2.2.2
/-- the bus went on -/
theorem ZZ.ofB (Z : ZZ c a h9 V α f κ κd h) (D : BX c (a 3) (a 4) (a 5) (a 6) h (WB a κ h) α' f' κ' g) (ex : ∀ q, κ' q ≠ 0 → κ q ≠ 0 ∨ h q = none) : ZZ c a h9 V α' f' κ' κd g := by
  have st : ∀ q, WB a κ h q → g q = h q := fun q hq => by obtain ⟨n, n90, -, -, -, -, -, -, D7⟩ := D; exact (D7 q hq).2.2.2.2.2.2
  have wd : ∀ q, κd q ≠ 0 → WB a κ h q := fun q hq => by
    have kq : κ q = 0 := Decidable.byContradiction fun n => hq (Z.2.2.2.2.2.1 q n)
    have ne : ∀ i, i ≤ 10 → q ≠ a i := fun i hi e => hq (by rw [e]; exact (Z.2.2.2.2.2.2.1 i hi).2)
    exact ⟨Z.dec.nn.2 q hq, kq, ne 3 (by omega), ne 4 (by omega), ne 5 (by omega), ne 6 (by omega)⟩
  obtain ⟨⟨fn, f1, e0⟩, ⟨gr, n, ⟨r1, r2, r3, r4⟩, hb⟩, ⟨g2, e2⟩, -, DD, k1, k2, k3, k4⟩ := id Z
  have nn2 := Z.nn
  refine ⟨⟨fn, f1, by rw [st _ (Z.wb (i := 0) (by omega))]; exact e0⟩, ⟨gr, n, ⟨r1, by rw [st _ (Z.wb (i := 1) (by omega))]; exact r2, by rw [st _ (Z.wb (i := 2) (by omega))]; exact r3, r4⟩, hb⟩, ⟨g2, by rw [st _ (Z.wb (i := 10) (by omega))]; exact e2⟩, D.core, DD.move (fun q hq => ?_), fun q n => ?_, fun i hi => ⟨?_, (k2 i hi).2⟩, k3, fun q hq => ?_⟩
  · rcases hq with rfl | rfl | rfl | hq
    · exact st _ (Z.wb (i := 7) (by omega))
    · exact st _ (Z.wb (i := 8) (by omega))
    · exact st _ (Z.wb (i := 9) (by omega))
    · exact st _ (wd q hq)
  · rcases ex q n with n | n
    · exact k1 q n
    · exact Decidable.byContradiction fun n2 => Z.dec.nn.2 q n2 n
  · refine Decidable.byContradiction fun n2 => ?_
    rcases ex _ n2 with n3 | n3
    · exact n3 (k2 i hi).1
    · have b := Z.bus.nn.1
      have d := Z.dec.nn.1
      have : h (a i) ≠ none := by
        rcases (show i = 0 ∨ i = 1 ∨ i = 2 ∨ i = 3 ∨ i = 4 ∨ i = 5 ∨ i = 6 ∨ i = 7 ∨ i = 8 ∨ i = 9 ∨ i = 10 by omega) with rfl | rfl | rfl | rfl | rfl | rfl | rfl | rfl | rfl | rfl | rfl
        · exact nn2.1
        · exact nn2.2.1
        · exact nn2.2.2.1
        · exact b.1
        · exact b.2.1
        · exact b.2.2.1
        · exact b.2.2.2
        · exact d.1
        · exact d.2.1
        · exact d.2.2
        · exact nn2.2.2.2
      exact this n3
  · obtain ⟨x1, x2, x3, x4, x5⟩ := k4 q hq
    have nq : h q ≠ none := by rw [x5]; exact x4
    refine ⟨Decidable.byContradiction fun n => ?_, x2, x3, x4, ?_⟩
    · rcases ex q n with n | n
      · exact n x1
      · exact nq n
    · rw [st q ⟨nq, x1, x3 3 (by omega), x3 4 (by omega), x3 5 (by omega), x3 6 (by omega)⟩]; exact x5
theorem ZZ.ofB0 (Z : ZZ c a h9 V α f κ κd h) (D : BX c (a 3) (a 4) (a 5) (a 6) h (WB a κ h) α' f' κ g) : ZZ c a h9 V α' f' κ κd g := Z.ofB D (fun _ n => Or.inl n)
/-- the decoder went on -/
theorem ZZ.ofD (Z : ZZ c a h9 V α f κ κd h) (D : DK c (a 7) (a 8) (a 9) h (WD a κd h) κd' g) : ZZ c a h9 V α f κ κd' g := by
  have st : ∀ q, WD a κd h q → κd' q = 0 ∧ g q = h q := fun q hq => by have := D.2.2.2.2.2 q hq; exact ⟨this.1, this.2.2.2.2.2⟩
  have wd : ∀ q, κ q ≠ 0 → WD a κd h q := fun q hq => by
    have ne : ∀ i, i ≤ 10 → q ≠ a i := fun i hi e => hq (by rw [e]; exact (Z.2.2.2.2.2.2.1 i hi).1)
    exact ⟨Z.bus.nn.2 q hq, Z.2.2.2.2.2.1 q hq, ne 7 (by omega), ne 8 (by omega), ne 9 (by omega)⟩
  obtain ⟨⟨fn, f1, e0⟩, ⟨gr, n, ⟨r1, r2, r3, r4⟩, hb⟩, ⟨g2, e2⟩, BB, -, k1, k2, k3, k4⟩ := id Z
  refine ⟨⟨fn, f1, by rw [(st _ (Z.wd (i := 0) (by omega))).2]; exact e0⟩, ⟨gr, n, ⟨r1, by rw [(st _ (Z.wd (i := 1) (by omega))).2]; exact r2, by rw [(st _ (Z.wd (i := 2) (by omega))).2]; exact r3, r4⟩, hb⟩, ⟨g2, by rw [(st _ (Z.wd (i := 10) (by omega))).2]; exact e2⟩, BB.move (fun q hq => ?_), D.core, fun q n => (st q (wd q n)).1, fun i hi => ⟨(k2 i hi).1, ?_⟩, k3, fun q hq => ?_⟩
  · rcases hq with rfl | rfl | rfl | rfl | hq
    · exact (st _ (Z.wd (i := 3) (by omega))).2
    · exact (st _ (Z.wd (i := 4) (by omega))).2
    · exact (st _ (Z.wd (i := 5) (by omega))).2
    · exact (st _ (Z.wd (i := 6) (by omega))).2
    · exact (st _ (wd q hq)).2
  · obtain ⟨l1, l2, l3, -⟩ := D.2.2.2.2.1
    rcases (show i = 7 ∨ i = 8 ∨ i = 9 ∨ (i = 0 ∨ i = 1 ∨ i = 2 ∨ i = 3 ∨ i = 4 ∨ i = 5 ∨ i = 6 ∨ i = 10) by omega) with rfl | rfl | rfl | hi
    · exact l1
    · exact l2
    · exact l3
    · exact (st _ (Z.wd hi)).1
  · obtain ⟨x1, x2, x3, x4, x5⟩ := k4 q hq
    have nq : h q ≠ none := by rw [x5]; exact x4
    have := st q ⟨nq, x2, x3 7 (by omega), x3 8 (by omega), x3 9 (by omega)⟩
    exact ⟨x1, this.1, x3, x4, this.2.trans x5⟩
/-- something of its own was written: the object, the buffer, the found ones -/
theorem ZZ.own (Z : ZZ c a h9 V α f κ κd h) (st : ∀ q, q ≠ a 0 → q ≠ a 1 → q ≠ a 2 → q ≠ a 10 → g q = h q) (x : ∃ fn, fn ≤ 12 ∧ g (a 0) = some (.inr (6, [.ref (a 1), .ref (a 3), .ref (a 7), .ref (a 9), .ref (a 10), .int (nI fn)]))) (r : ∃ gr n, RW c g (a 1) (a 2) gr n ∧ HB gr n) (y : ∃ gf, g (a 10) = some (.inl (c 1, 12, .inr (.inl gf)))) : ZZ c a h9 V α f κ κd g := by
  have sa : ∀ i, i ≤ 10 → i ≠ 0 → i ≠ 1 → i ≠ 2 → i ≠ 10 → g (a i) = h (a i) := fun i hi n0 n1 n2 n10 => st _ (Z.dif i 0 hi (by omega) n0) (Z.dif i 1 hi (by omega) n1) (Z.dif i 2 hi (by omega) n2) (Z.dif i 10 hi (by omega) n10)
  obtain ⟨-, -, -, BB, DD, k1, k2, k3, k4⟩ := id Z
  refine ⟨x, r, y, BB.move (fun q hq => ?_), DD.move (fun q hq => ?_), k1, k2, k3, fun q hq => ?_⟩
  · rcases hq with rfl | rfl | rfl | rfl | hq
    · exact sa 3 (by omega) (by omega) (by omega) (by omega) (by omega)
    · exact sa 4 (by omega) (by omega) (by omega) (by omega) (by omega)
    · exact sa 5 (by omega) (by omega) (by omega) (by omega) (by omega)
    · exact sa 6 (by omega) (by omega) (by omega) (by omega) (by omega)
    · have ne : ∀ i, i ≤ 10 → q ≠ a i := fun i hi e => hq (by rw [e]; exact (k2 i hi).1)
      exact st q (ne 0 (by omega)) (ne 1 (by omega)) (ne 2 (by omega)) (ne 10 (by omega))
  · rcases hq with rfl | rfl | rfl | hq
    · exact sa 7 (by omega) (by omega) (by omega) (by omega) (by omega)
    · exact sa 8 (by omega) (by omega) (by omega) (by omega) (by omega)
    · exact sa 9 (by omega) (by omega) (by omega) (by omega) (by omega)
    · have ne : ∀ i, i ≤ 10 → q ≠ a i := fun i hi e => hq (by rw [e]; exact (k2 i hi).2)
      exact st q (ne 0 (by omega)) (ne 1 (by omega)) (ne 2 (by omega)) (ne 10 (by omega))
  · obtain ⟨x1, x2, x3, x4, x5⟩ := k4 q hq
    exact ⟨x1, x2, x3, x4, (st q (x3 0 (by omega)) (x3 1 (by omega)) (x3 2 (by omega)) (x3 10 (by omega))).trans x5⟩
theorem ZZ.putB (Z : ZZ c a h9 V α f κ κd h) {gr : Nat → Int32} {n : Nat} (hn : n ≤ 300) (hb : HB gr n) : ZZ c a h9 V α f κ κd (rowh c h (a 1) (a 2) gr n) := by
  have d := Z.dif
  refine Z.own (fun q n0 n1 n2 n10 => rw_ne n1 n2) ?_ ⟨gr, n, RW.of (d 1 2 (by omega) (by omega) (by omega)) hn, hb⟩ ?_
  · rw [rw_ne (d 0 1 (by omega) (by omega) (by omega)) (d 0 2 (by omega) (by omega) (by omega))]; exact Z.x
  · rw [rw_ne (d 10 1 (by omega) (by omega) (by omega)) (d 10 2 (by omega) (by omega) (by omega))]; exact Z.fa
theorem ZZ.putX (Z : ZZ c a h9 V α f κ κd h) {fn : Nat} (hn : fn ≤ 12) : ZZ c a h9 V α f κ κd (hs h (a 0) (.inr (6, [.ref (a 1), .ref (a 3), .ref (a 7), .ref (a 9), .ref (a 10), .int (nI fn)]))) := by
  have d := Z.dif
  obtain ⟨gr, n, ⟨r1, r2, r3, r4⟩, hb⟩ := Z.buf
  refine Z.own (fun q n0 n1 n2 n10 => hs_ne n0) ⟨fn, hn, hs_self ..⟩ ⟨gr, n, ⟨r1, by rw [hs_ne (d 1 0 (by omega) (by omega) (by omega))]; exact r2, by rw [hs_ne (d 2 0 (by omega) (by omega) (by omega))]; exact r3, r4⟩, hb⟩ ?_
  rw [hs_ne (d 10 0 (by omega) (by omega) (by omega))]; exact Z.fa
theorem ZZ.putF (Z : ZZ c a h9 V α f κ κd h) (gf : Nat → Int64) : ZZ c a h9 V α f κ κd (hs h (a 10) (.inl (c 1, 12, .inr (.inl gf)))) := by
  have d := Z.dif
  obtain ⟨gr, n, ⟨r1, r2, r3, r4⟩, hb⟩ := Z.buf
  refine Z.own (fun q n0 n1 n2 n10 => hs_ne n10) ?_ ⟨gr, n, ⟨r1, by rw [hs_ne (d 1 10 (by omega) (by omega) (by omega))]; exact r2, by rw [hs_ne (d 2 10 (by omega) (by omega) (by omega))]; exact r3, r4⟩, hb⟩ ⟨gf, hs_self ..⟩
  rw [hs_ne (d 0 10 (by omega) (by omega) (by omega))]; exact Z.x
end ZZ
