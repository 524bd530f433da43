/-! What a Bus owns: its meters, their pages, the answer; all else stays. -/
/-- a Meter's cell: its address is told by α -/
def MEc (κ : Nat → Nat) (α : Nat → Int64) (m : Nat) (e : va_E) : Prop := ∃ (pr se pt bt ac : Int32) (pg sz : Nat), e = mF (α m) pr se pg sz pt bt ac ∧ κ pg = 2 ∧ κ sz = 4 ∧ (se = 0 ∨ se = 1)
/-- kinds: 1 a Meter, 2 its row of pages, 3 a page, 4 the sizes -/
def OKm (c : Nat → ClassId) (κ : Nat → Nat) (α : Nat → Int64) (q k : Nat) (o : Option va_E) : Prop := match k with
  | 0 => True
  | 1 => ∃ e, o = some e ∧ MEc κ α q e
  | 2 => ∃ g : Nat → Option Nat, o = some (.inl (c 5, 3, .inr (.inr (.inr (.inr g))))) ∧ ∀ i, i < 3 → ∃ t, g i = some t ∧ κ t = 3
  | 3 => ∃ f : Nat → Int32, o = some (.inl (c 0, 60, .inl f))
  | _ => ∃ f : Nat → Int32, o = some (.inl (c 0, 3, .inl f))
/-- the Bus u, its meters in ma, its answer an (bytes aa) of n bytes -/
def BN (c : Nat → ClassId) (u ma an aa : Nat) (h0 : PH) (W : Nat → Prop) (α : Nat → Int64) (f : Nat → Option Nat) (κ : Nat → Nat) (n : Nat) (h : PH) : Prop :=
  (∃ fr co : Int32, h u = some (.inr (0, [.ref ma, .ref an, .int fr, .int co]))) ∧ h ma = some (zM c f) ∧ (∀ k m, f k = some m → κ m = 1) ∧ (∃ g, RW c h an aa g n ∧ HB g n) ∧
  (∀ q, OKm c κ α q (κ q) (h q)) ∧ (κ u = 0 ∧ κ ma = 0 ∧ κ an = 0 ∧ κ aa = 0 ∧ u ≠ ma ∧ u ≠ an ∧ u ≠ aa ∧ ma ≠ an ∧ ma ≠ aa) ∧ (∀ q, W q → κ q = 0 ∧ q ≠ u ∧ q ≠ ma ∧ q ≠ an ∧ q ≠ aa ∧ h0 q ≠ none ∧ h q = h0 q)
def BX (c : Nat → ClassId) (u ma an aa : Nat) (h0 : PH) (W : Nat → Prop) (α : Nat → Int64) (f : Nat → Option Nat) (κ : Nat → Nat) (h : PH) : Prop := ∃ n, n ≤ 90 ∧ BN c u ma an aa h0 W α f κ n h
theorem and255 (b : Int32) : ∃ v, v < 256 ∧ b &&& 255 = nI v := by
  refine ⟨(b &&& 255).toBitVec.toNat, ?_, Int32.toBitVec_inj.mp (by show _ = BitVec.ofNat 32 _; simp)⟩
  rw [Int32.toBitVec_and, BitVec.toNat_and]
  exact Nat.lt_of_le_of_lt Nat.and_le_right (by decide)
theorem HB.add {g : Nat → Int32} {n : Nat} (hb : HB g n) (hn : n < 300) (x : Int32) : HB (rAdd g n x) (n + 1) := by
  intro j hj
  unfold rAdd
  rw [if_pos hn]
  by_cases e : j = n
  · subst e
    obtain ⟨v, v1, v2⟩ := and255 x
    exact ⟨v, v1, by rw [show upd g j (x &&& 255) j = x &&& 255 from by simp [upd]]; exact v2⟩
  · rw [show upd g n (x &&& 255) j = g j from by simp [upd, e]]
    exact hb j (by omega)
section BN
variable {c : Nat → ClassId} {u ma an aa n : Nat} {h0 h : PH} {W : Nat → Prop} {α : Nat → Int64} {f : Nat → Option Nat} {κ : Nat → Nat}
theorem BN.put (D : BN c u ma an aa h0 W α f κ n h) {q : Nat} {e : va_E} (hk : κ q ≠ 0) (ok : OKm c κ α q (κ q) (some e)) : BN c u ma an aa h0 W α f κ n (hs h q e) := by
  obtain ⟨D1, D2, D3, ⟨g, ⟨r1, r2, r3, r4⟩, g2⟩, D5, ⟨l1, l2, l3, l4, l5⟩, D7⟩ := D
  have n1 : u ≠ q := fun e1 => hk (by rw [← e1]; exact l1)
  have n2 : ma ≠ q := fun e1 => hk (by rw [← e1]; exact l2)
  have n3 : an ≠ q := fun e1 => hk (by rw [← e1]; exact l3)
  have n4 : aa ≠ q := fun e1 => hk (by rw [← e1]; exact l4)
  refine ⟨by rw [hs_ne n1]; exact D1, by rw [hs_ne n2]; exact D2, D3, ⟨g, ⟨r1, by rw [hs_ne n3]; exact r2, by rw [hs_ne n4]; exact r3, r4⟩, g2⟩, fun x => ?_, ⟨l1, l2, l3, l4, l5⟩, fun x hx => ?_⟩
  · by_cases e1 : x = q
    · subst e1; rw [hs_self]; exact ok
    · rw [hs_ne e1]; exact D5 x
  · obtain ⟨x1, x2, x3, x4, x5, x6, x7⟩ := D7 x hx
    exact ⟨x1, x2, x3, x4, x5, x6, by rw [hs_ne (fun e1 => hk (by rw [← e1]; exact x1))]; exact x7⟩
theorem BN.putU (D : BN c u ma an aa h0 W α f κ n h) (fr co : Int32) : BN c u ma an aa h0 W α f κ n (hs h u (.inr (0, [.ref ma, .ref an, .int fr, .int co]))) := by
  obtain ⟨D1, D2, D3, ⟨g, ⟨r1, r2, r3, r4⟩, g2⟩, D5, ⟨l1, l2, l3, l4, l5, l6, l7, l8⟩, D7⟩ := D
  refine ⟨⟨fr, co, hs_self ..⟩, by rw [hs_ne (Ne.symm l5)]; exact D2, D3, ⟨g, ⟨r1, by rw [hs_ne (Ne.symm l6)]; exact r2, by rw [hs_ne (Ne.symm l7)]; exact r3, r4⟩, g2⟩, fun x => ?_, ⟨l1, l2, l3, l4, l5, l6, l7, l8⟩, fun x hx => ?_⟩
  · by_cases e1 : x = u
    · subst e1; rw [l1]; trivial
    · rw [hs_ne e1]; exact D5 x
  · obtain ⟨x1, x2, x3, x4, x5, x6, x7⟩ := D7 x hx
    exact ⟨x1, x2, x3, x4, x5, x6, by rw [hs_ne x2]; exact x7⟩
/-- the answer written anew -/
theorem BN.putA (D : BN c u ma an aa h0 W α f κ n h) {g : Nat → Int32} {n' : Nat} (hn : n' ≤ 300) (hb : HB g n') : BN c u ma an aa h0 W α f κ n' (rowh c h an aa g n') := by
  obtain ⟨D1, D2, D3, ⟨g0, ⟨r1, r2, r3, r4⟩, g2⟩, D5, ⟨l1, l2, l3, l4, l5, l6, l7, l8, l9⟩, D7⟩ := D
  refine ⟨by rw [rw_ne l6 l7]; exact D1, by rw [rw_ne l8 l9]; exact D2, D3, ⟨g, RW.of r1 hn, hb⟩, fun x => ?_, ⟨l1, l2, l3, l4, l5, l6, l7, l8, l9⟩, fun x hx => ?_⟩
  · by_cases e1 : x = an
    · subst e1; rw [l3]; trivial
    · by_cases e2 : x = aa
      · subst e2; rw [l4]; trivial
      · rw [rw_ne e1 e2]; exact D5 x
  · obtain ⟨x1, x2, x3, x4, x5, x6, x7⟩ := D7 x hx
    exact ⟨x1, x2, x3, x4, x5, x6, by rw [rw_ne x4 x5]; exact x7⟩
theorem BN.me (D : BN c u ma an aa h0 W α f κ n h) {m : Nat} (hm : κ m = 1) : ∃ (pr se pt bt ac : Int32) (pg sz : Nat), h m = some (mF (α m) pr se pg sz pt bt ac) ∧ κ pg = 2 ∧ κ sz = 4 ∧ (se = 0 ∨ se = 1) := by
  have := D.2.2.2.2.1 m
  rw [hm] at this
  obtain ⟨e, e1, pr, se, pt, bt, ac, pg, sz, e2, e3⟩ := this
  exact ⟨pr, se, pt, bt, ac, pg, sz, by rw [e1, e2], e3⟩
theorem BN.putM (D : BN c u ma an aa h0 W α f κ n h) {m : Nat} (hm : κ m = 1) (pr se pt bt ac : Int32) {pg sz : Nat} (h1 : κ pg = 2) (h2 : κ sz = 4) (h3 : se = 0 ∨ se = 1) : BN c u ma an aa h0 W α f κ n (hs h m (mF (α m) pr se pg sz pt bt ac)) := D.put (by omega) (by rw [hm]; exact ⟨_, rfl, pr, se, pt, bt, ac, pg, sz, rfl, h1, h2, h3⟩)
theorem BN.sz (D : BN c u ma an aa h0 W α f κ n h) {q : Nat} (hq : κ q = 4) : ∃ s : Nat → Int32, h q = some (.inl (c 0, 3, .inl s)) := by
  have := D.2.2.2.2.1 q
  rw [hq] at this
  exact this
theorem BN.pg (D : BN c u ma an aa h0 W α f κ n h) {q : Nat} (hq : κ q = 2) : ∃ g : Nat → Option Nat, h q = some (.inl (c 5, 3, .inr (.inr (.inr (.inr g))))) ∧ ∀ i, i < 3 → ∃ t, g i = some t ∧ κ t = 3 := by
  have := D.2.2.2.2.1 q
  rw [hq] at this
  exact this
theorem BN.pp (D : BN c u ma an aa h0 W α f κ n h) {q : Nat} (hq : κ q = 3) : ∃ s : Nat → Int32, h q = some (.inl (c 0, 60, .inl s)) := by
  have := D.2.2.2.2.1 q
  rw [hq] at this
  exact this
theorem BN.apart (D : BN c u ma an aa h0 W α f κ n h) {q : Nat} (hk : κ q ≠ 0) : an ≠ q ∧ aa ≠ q ∧ u ≠ q ∧ ma ≠ q := by
  obtain ⟨-, -, -, -, -, ⟨l1, l2, l3, l4, -⟩, -⟩ := D
  exact ⟨fun e => hk (by rw [← e]; exact l3), fun e => hk (by rw [← e]; exact l4), fun e => hk (by rw [← e]; exact l1), fun e => hk (by rw [← e]; exact l2)⟩
theorem BN.out (D : BN c u ma an aa h0 W α f κ n h) {b ba k : Nat} {g : Nat → Int32} (R : RW c h0 b ba g k) (o1 : W b) (o2 : W ba) : RW c h b ba g k := by
  obtain ⟨r1, r2, r3, r4⟩ := R
  exact ⟨r1, by rw [(D.2.2.2.2.2.2 b o1).2.2.2.2.2.2]; exact r2, by rw [(D.2.2.2.2.2.2 ba o2).2.2.2.2.2.2]; exact r3, r4⟩
end BN
theorem adF_n (a : Int64) (g : Nat → Int32) (n : Nat) (hn : n ≤ 200) (hb : HB g n) : ∀ k, k ≤ 8 → (adF a g n k).2 = n + k ∧ HB (adF a g n k).1 (n + k)
  | 0, _ => ⟨rfl, hb⟩
  | k + 1, hk => by
    obtain ⟨e1, e2⟩ := adF_n a g n hn hb k (by omega)
    constructor
    · show rNum (adF a g n k).2 = n + (k + 1)
      rw [e1]
      exact if_pos (by omega)
    · show HB (rAdd (adF a g n k).1 (adF a g n k).2 _) (n + (k + 1))
      rw [e1]
      exact e2.add (by omega) _
