/-! What a decoder owns: its list, the readings, their rows; all else stays. -/
def RDc (κ : Nat → Nat) (e : va_E) : Prop := ∃ (va sg : Int64) (co fu ta un ln : Int32) (v vn : Nat) (lt : Value), e = .inr (3, rdL va co fu sg ta un v (nI vn) lt ln) ∧ κ v = 2 ∧ vn ≤ 11 ∧ (lt = .null ∨ ∃ t, lt = .ref t ∧ κ t = 3)
/-- kinds: 1 a Reading, 2 its row of VIFs, 3 a row of letters -/
def OKc (c : Nat → ClassId) (κ : Nat → Nat) (k : Nat) (o : Option va_E) : Prop := match k with
  | 0 => True
  | 1 => ∃ e, o = some e ∧ RDc κ e
  | 2 => ∃ f : Nat → Int32, o = some (.inl (c 0, 11, .inl f))
  | _ => ∃ (n : Nat) (f : Nat → Int32), n ≤ 300 ∧ o = some (.inl (c 0, n, .inl f))
/-- W: what is not the decoder's and stays as h0 had it -/
def DK (c : Nat → ClassId) (li ra de : Nat) (h0 : PH) (W : Nat → Prop) (κ : Nat → Nat) (h : PH) : Prop :=
  (∃ n, n ≤ 100 ∧ h li = some (.inr (4, [.ref ra, .int (nI n)]))) ∧ (∃ g, h ra = some (zR c g) ∧ ∀ j p, g j = some p → κ p = 1) ∧
  (∃ (fr : Value) (at_ en fa pl mo : Int32), h de = some (.inr (1, [.ref li, fr, .int at_, .int en, .int fa, .int pl, .int mo])) ∧ (mo = 0 ∨ mo = 1)) ∧
  (∀ q, OKc c κ (κ q) (h q)) ∧ (κ li = 0 ∧ κ ra = 0 ∧ κ de = 0 ∧ li ≠ ra ∧ li ≠ de ∧ ra ≠ de) ∧ (∀ q, W q → κ q = 0 ∧ q ≠ li ∧ q ≠ ra ∧ q ≠ de ∧ h0 q ≠ none ∧ h q = h0 q)
section DK
variable {c : Nat → ClassId} {li ra de : Nat} {h0 h : PH} {W : Nat → Prop} {κ : Nat → Nat}
theorem OKc.some {k : Nat} {o : Option va_E} (g : OKc c κ k o) (n : k ≠ 0) : o ≠ none := by
  match k, n, g with
  | 1, _, ⟨e, h, _⟩ => rw [h]; simp
  | 2, _, ⟨f, h⟩ => rw [h]; simp
  | k + 3, _, ⟨n, f, _, h⟩ => rw [h]; simp
theorem DK.fresh (D : DK c li ra de h0 W κ h) {q : Nat} (hq : h q = none) : κ q = 0 := Decidable.byContradiction fun n => (D.2.2.2.1 q).some n hq
theorem RDc.mono {κ' : Nat → Nat} {e : va_E} (r : RDc κ e) (m : ∀ q, κ q ≠ 0 → κ' q = κ q) : RDc κ' e := by
  obtain ⟨va, sg, co, fu, ta, un, ln, v, vn, lt, e1, e2, e3, e4⟩ := r
  refine ⟨va, sg, co, fu, ta, un, ln, v, vn, lt, e1, by rw [m v (by omega)]; exact e2, e3, e4.imp id (fun ⟨t, t1, t2⟩ => ⟨t, t1, by rw [m t (by omega)]; exact t2⟩)⟩
theorem OKc.mono {κ' : Nat → Nat} {k : Nat} {o : Option va_E} (g : OKc c κ k o) (m : ∀ q, κ q ≠ 0 → κ' q = κ q) : OKc c κ' k o := by
  match k, g with
  | 0, _ => trivial
  | 1, ⟨e, h, r⟩ => exact ⟨e, h, r.mono m⟩
  | 2, g => exact g
  | k + 3, g => exact g
/-- a thing of a kind written anew -/
theorem DK.put (D : DK c li ra de h0 W κ h) {q : Nat} {e : va_E} (hk : κ q ≠ 0) (ok : OKc c κ (κ q) (some e)) : DK c li ra de h0 W κ (hs h q e) := by
  obtain ⟨D1, D2, D3, D4, ⟨l1, l2, l3, l4, l5, l6⟩, D6⟩ := D
  have nl : li ≠ q := fun e1 => hk (by rw [← e1]; exact l1)
  have nr : ra ≠ q := fun e1 => hk (by rw [← e1]; exact l2)
  have nd : de ≠ q := fun e1 => hk (by rw [← e1]; exact l3)
  refine ⟨by rw [hs_ne nl]; exact D1, by rw [hs_ne nr]; exact D2, by rw [hs_ne nd]; exact D3, fun x => ?_, ⟨l1, l2, l3, l4, l5, l6⟩, fun x hx => ?_⟩
  · by_cases e1 : x = q
    · subst e1; rw [hs_self]; exact ok
    · rw [hs_ne e1]; exact D4 x
  · obtain ⟨x1, x2, x3, x4, x5, x6⟩ := D6 x hx
    exact ⟨x1, x2, x3, x4, x5, by rw [hs_ne (fun e1 => hk (by rw [← e1]; exact x1))]; exact x6⟩
theorem DK.putD (D : DK c li ra de h0 W κ h) (fr : Value) (at_ en fa pl mo : Int32) (hm : mo = 0 ∨ mo = 1) : DK c li ra de h0 W κ (hs h de (.inr (1, [.ref li, fr, .int at_, .int en, .int fa, .int pl, .int mo]))) := by
  obtain ⟨D1, D2, D3, D4, ⟨l1, l2, l3, l4, l5, l6⟩, D6⟩ := D
  refine ⟨by rw [hs_ne l5]; exact D1, by rw [hs_ne l6]; exact D2, ⟨fr, at_, en, fa, pl, mo, hs_self .., hm⟩, fun x => ?_, ⟨l1, l2, l3, l4, l5, l6⟩, fun x hx => by
    obtain ⟨x1, x2, x3, x4, x5, x6⟩ := D6 x hx
    exact ⟨x1, x2, x3, x4, x5, by rw [hs_ne x4]; exact x6⟩⟩
  by_cases e1 : x = de
  · subst e1; rw [l3]; trivial
  · rw [hs_ne e1]; exact D4 x
theorem DK.putL (D : DK c li ra de h0 W κ h) {n : Nat} (hn : n ≤ 100) : DK c li ra de h0 W κ (hs h li (.inr (4, [.ref ra, .int (nI n)]))) := by
  obtain ⟨D1, D2, D3, D4, ⟨l1, l2, l3, l4, l5, l6⟩, D6⟩ := D
  refine ⟨⟨n, hn, hs_self ..⟩, by rw [hs_ne (Ne.symm l4)]; exact D2, by rw [hs_ne (Ne.symm l5)]; exact D3, fun x => ?_, ⟨l1, l2, l3, l4, l5, l6⟩, fun x hx => by
    obtain ⟨x1, x2, x3, x4, x5, x6⟩ := D6 x hx
    exact ⟨x1, x2, x3, x4, x5, by rw [hs_ne x2]; exact x6⟩⟩
  by_cases e1 : x = li
  · subst e1; rw [l1]; trivial
  · rw [hs_ne e1]; exact D4 x
theorem DK.putR (D : DK c li ra de h0 W κ h) {g : Nat → Option Nat} (hg : ∀ j p, g j = some p → κ p = 1) : DK c li ra de h0 W κ (hs h ra (zR c g)) := by
  obtain ⟨D1, D2, D3, D4, ⟨l1, l2, l3, l4, l5, l6⟩, D6⟩ := D
  refine ⟨by rw [hs_ne l4]; exact D1, ⟨g, hs_self .., hg⟩, by rw [hs_ne (Ne.symm l6)]; exact D3, fun x => ?_, ⟨l1, l2, l3, l4, l5, l6⟩, fun x hx => by
    obtain ⟨x1, x2, x3, x4, x5, x6⟩ := D6 x hx
    exact ⟨x1, x2, x3, x4, x5, by rw [hs_ne x3]; exact x6⟩⟩
  by_cases e1 : x = ra
  · subst e1; rw [l2]; trivial
  · rw [hs_ne e1]; exact D4 x
/-- a new thing of a kind -/
theorem DK.new (D : DK c li ra de h0 W κ h) {q k : Nat} {e : va_E} (hq : h q = none) (ok : OKc c (va_up κ q k) k (some e)) : DK c li ra de h0 W (va_up κ q k) (hs h q e) := by
  have k0 := D.fresh hq
  have m : ∀ x, κ x ≠ 0 → va_up κ q k x = κ x := fun x hx => va_up_ne _ _ (fun e1 => hx (by rw [e1]; exact k0))
  obtain ⟨⟨n, n1, n2⟩, ⟨g, g1, g2⟩, ⟨fr, at_, en, fa, pl, mo, m1, m2⟩, D4, ⟨l1, l2, l3, l4, l5, l6⟩, D6⟩ := D
  have nl : li ≠ q := fun e1 => by rw [e1, hq] at n2; exact nomatch n2
  have nr : ra ≠ q := fun e1 => by rw [e1, hq] at g1; exact nomatch g1
  have nd : de ≠ q := fun e1 => by rw [e1, hq] at m1; exact nomatch m1
  refine ⟨⟨n, n1, by rw [hs_ne nl]; exact n2⟩, ⟨g, by rw [hs_ne nr]; exact g1, fun j p hj => by rw [m p (by rw [g2 j p hj]; decide)]; exact g2 j p hj⟩, ⟨fr, at_, en, fa, pl, mo, by rw [hs_ne nd]; exact m1, m2⟩, fun x => ?_, ⟨by rw [va_up_ne _ _ nl]; exact l1, by rw [va_up_ne _ _ nr]; exact l2, by rw [va_up_ne _ _ nd]; exact l3, l4, l5, l6⟩, fun x hx => ?_⟩
  · by_cases e1 : x = q
    · subst e1; rw [hs_self, va_up_self]; exact ok
    · rw [hs_ne e1, va_up_ne _ _ e1]; exact (D4 x).mono m
  · obtain ⟨x1, x2, x3, x4, x5, x6⟩ := D6 x hx
    have e1 : x ≠ q := fun e1 => by
      rw [e1, hq] at x6
      rw [e1] at x5
      exact x5 x6.symm
    exact ⟨by rw [va_up_ne _ _ e1]; exact x1, x2, x3, x4, x5, by rw [hs_ne e1]; exact x6⟩
theorem DK.rd (D : DK c li ra de h0 W κ h) {p : Nat} (hp : κ p = 1) : ∃ e, h p = some e ∧ RDc κ e := by
  have := D.2.2.2.1 p
  rw [hp] at this
  exact this
theorem DK.vf (D : DK c li ra de h0 W κ h) {v : Nat} (hv : κ v = 2) : ∃ f : Nat → Int32, h v = some (.inl (c 0, 11, .inl f)) := by
  have := D.2.2.2.1 v
  rw [hv] at this
  exact this
theorem DK.lt (D : DK c li ra de h0 W κ h) {t : Nat} (ht : κ t = 3) : ∃ (n : Nat) (f : Nat → Int32), n ≤ 300 ∧ h t = some (.inl (c 0, n, .inl f)) := by
  have := D.2.2.2.1 t
  rw [ht] at this
  exact this
theorem DK.putRd (D : DK c li ra de h0 W κ h) {p : Nat} (hp : κ p = 1) {e : va_E} (r : RDc κ e) : DK c li ra de h0 W κ (hs h p e) := D.put (by omega) (by rw [hp]; exact ⟨e, rfl, r⟩)
theorem DK.putVf (D : DK c li ra de h0 W κ h) {v : Nat} (hv : κ v = 2) (f : Nat → Int32) : DK c li ra de h0 W κ (hs h v (.inl (c 0, 11, .inl f))) := D.put (by omega) (by rw [hv]; exact ⟨f, rfl⟩)
theorem DK.putLt (D : DK c li ra de h0 W κ h) {t n : Nat} (ht : κ t = 3) (hn : n ≤ 300) (f : Nat → Int32) : DK c li ra de h0 W κ (hs h t (.inl (c 0, n, .inl f))) := D.put (by omega) (by rw [ht]; exact ⟨n, f, hn, rfl⟩)
/-- a Row that is none of a decoder's things -/
theorem DK.row (D : DK c li ra de h0 W κ h) {b ba n : Nat} {f : Nat → Int32} (R : RW c h0 b ba f n) (o1 : W b) (o2 : W ba) : RW c h b ba f n := by
  obtain ⟨r1, r2, r3, r4⟩ := R
  exact ⟨r1, by rw [(D.2.2.2.2.2 b o1).2.2.2.2.2]; exact r2, by rw [(D.2.2.2.2.2 ba o2).2.2.2.2.2]; exact r3, r4⟩
end DK
