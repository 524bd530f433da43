/-! Who is there, with which address: the class against the model. -/
def bl (x : Int64) (i : Nat) : Bool := x.toBitVec.getLsbD i
theorem bl_or (x y : Int64) (i : Nat) : bl (x ||| y) i = (bl x i || bl y i) := by unfold bl; rw [Int64.toBitVec_or, BitVec.getLsbD_or]
theorem bl_and (x y : Int64) (i : Nat) : bl (x &&& y) i = (bl x i && bl y i) := by unfold bl; rw [Int64.toBitVec_and, BitVec.getLsbD_and]
theorem bl_m (i : Nat) : bl 4294967295 i = decide (i < 32) := by
  rcases Nat.lt_or_ge i 64 with h | h
  · exact (by decide +kernel : ∀ i, i < 64 → bl 4294967295 i = decide (i < 32)) i h
  · rw [show bl 4294967295 i = false from BitVec.getLsbD_of_ge _ _ h, decide_eq_false (by omega)]
theorem bl_i2l (x : Int32) {i : Nat} (hi : i < 64) : bl x.toInt64 i = if i < 32 then bt x i else bt x 31 := by
  unfold bl bt
  rw [Int32.toBitVec_toInt64, BitVec.getLsbD_signExtend, BitVec.msb_eq_getLsbD_last]
  simp [hi]
theorem bl_shl (x : Int64) (y : Int32) (n : Nat) (hy : ((y.toInt64 &&& 63).toBitVec.smod 64).toNat = n) {i : Nat} (hi : i < 64) : bl (x <<< (y.toInt64 &&& 63)) i = (decide (n ≤ i) && bl x (i - n)) := by
  unfold bl
  rw [Int64.toBitVec_shiftLeft]
  show (x.toBitVec <<< ((y.toInt64 &&& 63).toBitVec.smod 64).toNat).getLsbD i = _
  rw [hy, BitVec.getLsbD_shiftLeft]
  rcases Nat.lt_or_ge i n with h | h
  · simp [h, Nat.not_le.mpr h]
  · simp [hi, h, Nat.not_lt.mpr h]
theorem nbits {x : Int32} {M : Int32} {N e : Nat} (hM : M = nI N) (hN : N < 2 ^ e) (he : e < 31) (h0 : (0 : Int32) ≤ x) (h1 : x ≤ M) : ∀ t, e ≤ t → bt x t = false := by
  intro t ht
  obtain ⟨n, hn, rfl⟩ := nI_of (Int32.not_lt.mpr h0)
  subst hM
  have hp : 2 ^ e ≤ 2 ^ 30 := Nat.pow_le_pow_right (by decide) (by omega)
  have hn2 : n ≤ N := (nI_leI hn (by omega)).mp h1
  unfold bt
  show (BitVec.ofNat 32 n).getLsbD t = false
  rw [BitVec.getLsbD_ofNat, Nat.testBit_lt_two_pow (Nat.lt_of_lt_of_le (Nat.lt_of_le_of_lt hn2 hN) (Nat.pow_le_pow_right (by decide) ht))]
  simp
/-- what the class has asked of maker, version, medium -/
def rng (mk v d : Int32) : Prop := ((0 : Int32) ≤ mk ∧ mk ≤ 65535) ∧ ((0 : Int32) ≤ v ∧ v ≤ 254) ∧ ((0 : Int32) ≤ d ∧ d ≤ 254)
section Bits
variable {i mk v d i' mk' v' d' : Int32}
theorem rng.mm (h : rng mk v d) : ∀ t, 16 ≤ t → bt mk t = false := nbits (N := 65535) rfl (by decide) (by decide) h.1.1 h.1.2
theorem rng.vv (h : rng mk v d) : ∀ t, 8 ≤ t → bt v t = false := nbits (N := 254) rfl (by decide) (by decide) h.2.1.1 h.2.1.2
theorem rng.dd (h : rng mk v d) : ∀ t, 8 ≤ t → bt d t = false := nbits (N := 254) rfl (by decide) (by decide) h.2.2.1 h.2.2.2
theorem adr_bit (h : rng mk v d) {t : Nat} (ht : t < 64) : bl (adr i mk v d) t = if t < 32 then bt i t else if t < 48 then bt mk (t - 32) else if t < 56 then bt v (t - 48) else bt d (t - 56) := by
  unfold adr
  rw [bl_or, bl_or, bl_or, bl_and, bl_m, bl_i2l _ ht, bl_shl _ 32 32 (by decide) ht, bl_shl _ 48 48 (by decide) ht, bl_shl _ 56 56 (by decide) ht]
  by_cases h1 : t < 32
  · rw [if_pos h1, if_pos h1, decide_eq_false (show ¬ 32 ≤ t by omega), decide_eq_false (show ¬ 48 ≤ t by omega), decide_eq_false (show ¬ 56 ≤ t by omega), decide_eq_true h1]
    simp
  rw [if_neg h1, if_neg h1, decide_eq_false h1, decide_eq_true (show 32 ≤ t by omega), bl_i2l mk (show t - 32 < 64 by omega), if_pos (show t - 32 < 32 by omega)]
  by_cases h2 : t < 48
  · rw [if_pos h2, decide_eq_false (show ¬ 48 ≤ t by omega), decide_eq_false (show ¬ 56 ≤ t by omega)]
    simp
  rw [if_neg h2, decide_eq_true (show 48 ≤ t by omega), h.mm (t - 32) (by omega), bl_i2l v (show t - 48 < 64 by omega), if_pos (show t - 48 < 32 by omega)]
  by_cases h3 : t < 56
  · rw [if_pos h3, decide_eq_false (show ¬ 56 ≤ t by omega)]
    simp
  rw [if_neg h3, decide_eq_true (show 56 ≤ t by omega), h.vv (t - 48) (by omega), bl_i2l d (show t - 56 < 64 by omega), if_pos (show t - 56 < 32 by omega)]
  simp
theorem adr_inj (h : rng mk v d) (h' : rng mk' v' d') (e : adr i mk v d = adr i' mk' v' d') : i = i' ∧ mk = mk' ∧ v = v' ∧ d = d' := by
  have b : ∀ t, t < 64 → (if t < 32 then bt i t else if t < 48 then bt mk (t - 32) else if t < 56 then bt v (t - 48) else bt d (t - 56)) = (if t < 32 then bt i' t else if t < 48 then bt mk' (t - 32) else if t < 56 then bt v' (t - 48) else bt d' (t - 56)) := fun t ht => by rw [← adr_bit h ht, ← adr_bit h' ht, e]
  refine ⟨b_ext (fun t ht => ?_), b_ext (fun t ht => ?_), b_ext (fun t ht => ?_), b_ext (fun t ht => ?_)⟩
  · have := b t (by omega)
    rw [if_pos ht, if_pos ht] at this
    exact this
  · by_cases q : t < 16
    · have := b (t + 32) (by omega)
      simp only [if_neg (show ¬ t + 32 < 32 by omega), if_pos (show t + 32 < 48 by omega), show t + 32 - 32 = t by omega] at this
      exact this
    · rw [h.mm t (by omega), h'.mm t (by omega)]
  · by_cases q : t < 8
    · have := b (t + 48) (by omega)
      simp only [if_neg (show ¬ t + 48 < 32 by omega), if_neg (show ¬ t + 48 < 48 by omega), if_pos (show t + 48 < 56 by omega), show t + 48 - 48 = t by omega] at this
      exact this
    · rw [h.vv t (by omega), h'.vv t (by omega)]
  · by_cases q : t < 8
    · have := b (t + 56) (by omega)
      simp only [if_neg (show ¬ t + 56 < 32 by omega), if_neg (show ¬ t + 56 < 48 by omega), if_neg (show ¬ t + 56 < 56 by omega), show t + 56 - 56 = t by omega] at this
      exact this
    · rw [h.dd t (by omega), h'.dd t (by omega)]
theorem byte_inj (h : rng mk v d) (h' : rng mk' v' d') (e : ∀ b, b < 8 → f_byte b i mk v d = f_byte b i' mk' v' d') : i = i' ∧ mk = mk' ∧ v = v' ∧ d = d' := by
  refine ⟨b_ext (fun t ht => ?_), b_ext (fun t ht => ?_), e 6 (by decide), e 7 (by decide)⟩
  · have := e (t / 8) (by omega)
    unfold f_byte at this
    rw [if_pos (show t / 8 < 4 by omega), if_pos (show t / 8 < 4 by omega), show (8 : Int32) * nI (t / 8) = nI (8 * (t / 8)) from pk_mul 8 (t / 8)] at this
    have hx : ∀ x : Int32, bt ((x >>> (nI (8 * (t / 8)) &&& 31)) &&& 255) (t % 8) = bt x t := fun x => by
      rw [b_and, b_sshr _ (show 8 * (t / 8) < 32 by omega) _ (show t % 8 < 32 by omega), if_pos (show 8 * (t / 8) + t % 8 < 32 by omega), b_255, decide_eq_true (show t % 8 < 8 by omega), Bool.and_true, show 8 * (t / 8) + t % 8 = t by omega]
    rw [← hx i, ← hx i', this]
  · by_cases q : t < 8
    · have e4 : mk &&& 255 = mk' &&& 255 := e 4 (by decide)
      have hx : ∀ x : Int32, bt (x &&& 255) t = bt x t := fun x => by rw [b_and, b_255, decide_eq_true q, Bool.and_true]
      rw [← hx mk, ← hx mk', e4]
    · by_cases q3 : t < 16
      · have e5 : mk >>> ((8 : Int32) &&& 31) = mk' >>> ((8 : Int32) &&& 31) := e 5 (by decide)
        have q2 := congrArg (fun x => bt x (t - 8)) e5
        have r1 := b_sshr 8 (by omega) mk (i := t - 8) (by omega)
        have r2 := b_sshr 8 (by omega) mk' (i := t - 8) (by omega)
        rw [if_pos (show 8 + (t - 8) < 32 by omega), show 8 + (t - 8) = t by omega] at r1 r2
        exact r1.symm.trans (q2.trans r2)
      · rw [h.mm t (by omega), h'.mm t (by omega)]
end Bits
/-- the meters of the class are the model's -/
def RK (f : Nat → Option Nat) (α : Nat → Int64) (S : MS) : Prop := ∀ k, k < 12 → (f k = none ∧ S.a 10 k = 0) ∨ ∃ p i mk v d, f k = some p ∧ ¬ S.a 10 k = 0 ∧ α p = adr i mk v d ∧ rng mk v d ∧ ∀ b, b < 8 → S.a 12 (8 * k + b) = f_byte b i mk v d
section Rel
variable {f : Nat → Option Nat} {α : Nat → Int64} {S S' : MS} {k ad i mk v d : Int32}
theorem RK.sm (h : RK f α S) (g : SM S S') : RK f α S' := fun k hk => by
  rcases h k hk with ⟨h1, h2⟩ | ⟨p, i, mk, v, d, h1, h2, h3, h4, h5⟩
  · exact Or.inl ⟨h1, by rw [g.1]; exact h2⟩
  · exact Or.inr ⟨p, i, mk, v, d, h1, by rw [g.1]; exact h2, h3, h4, fun b hb => by rw [g.2]; exact h5 b hb⟩
theorem g_sb_iff {m n : Nat} : g_sb S m i mk v d n = true ↔ ∀ b, b < n → S.a 12 (8 * m + b) = f_byte b i mk v d := by
  unfold g_sb
  rw [List.all_eq_true]
  exact ⟨fun h b hb => of_decide_eq_true (h b (List.mem_range.mpr hb)), fun h b hb => decide_eq_true (h b (List.mem_range.mp hb))⟩
theorem RK.othr (h : RK f α S) (g : rng mk v d) : oth f α k (adr i mk v d) ↔ ¬ g_free S k i mk v d 12 = true := by
  constructor
  · intro ⟨j, m, h1, h2, h3, h4⟩ q
    unfold g_free at q
    rw [List.all_eq_true] at q
    refine of_decide_eq_true (q j (List.mem_range.mpr h1)) ?_
    rcases h j h1 with ⟨e1, -⟩ | ⟨p, i', mk', v', d', e1, e2, e3, e4, e5⟩
    · rw [h3] at e1; exact nomatch e1
    · obtain rfl : m = p := by rw [h3] at e1; exact Option.some.inj e1
      obtain ⟨rfl, rfl, rfl, rfl⟩ := adr_inj e4 g (e3.symm.trans h4)
      exact ⟨⟨e2, h2⟩, g_sb_iff.mpr e5⟩
  · intro q
    refine Classical.byContradiction fun no => q ?_
    unfold g_free
    rw [List.all_eq_true]
    intro j hj
    refine decide_eq_true (fun gs => no ?_)
    obtain ⟨⟨s1, s2⟩, s3⟩ := gs
    have hj2 := List.mem_range.mp hj
    rcases h j hj2 with ⟨-, e1⟩ | ⟨p, i', mk', v', d', e1, e2, e3, e4, e5⟩
    · exact absurd e1 s1
    · have s4 := g_sb_iff.mp s3
      obtain ⟨rfl, rfl, rfl, rfl⟩ := byte_inj e4 g (fun b hb => (e5 b hb).symm.trans (s4 b hb))
      exact ⟨j, p, hj2, s2, e1, e3⟩
theorem k_rng (g : k_good ad i mk v d) : rng mk v d := ⟨mk_rng g.2.2.1.1 g.2.2.1.2, g.2.2.2⟩
theorem RK.good (h : RK f α S) : g_good S k ad i mk v d ↔ k_good ad i mk v d ∧ ¬ oth f α k (adr i mk v d) := by
  constructor
  · intro g
    have kg : k_good ad i mk v d := ⟨⟨g.1.1.1, g.1.2⟩, g.1.1.2.2.1, g.1.1.2.2.2.1, g.1.1.2.2.2.2⟩
    exact ⟨kg, fun o => (h.othr (k_rng kg)).mp o g.2⟩
  · intro ⟨g, o⟩
    exact ⟨⟨⟨g.1.1, mk_rng g.2.2.1.1 g.2.2.1.2, g.2.1, g.2.2.1, g.2.2.2⟩, g.1.2⟩, Classical.byContradiction fun q => o ((h.othr (k_rng g)).mpr q)⟩
theorem RK.meter (h : RK f α S) {j p : Nat} (g : k_good ad i mk v d) (old : ∀ q m, f q = some m → m ≠ p) : RK (va_up f j (some p)) (va_up α p (adr i mk v d)) (f_meter S j ad i mk v d) := fun q hq => by
  by_cases e : q = j
  · subst e
    refine Or.inr ⟨p, i, mk, v, d, va_up_self .., ?_, va_up_self .., k_rng g, fun b hb => ?_⟩
    · rw [meter_10, if_pos rfl]; decide
    · rw [meter_12, if_pos (by omega), show 8 * q + b - 8 * q = b by omega]
  · rcases h q hq with ⟨h1, h2⟩ | ⟨p', i', mk', v', d', h1, h2, h3, h4, h5⟩
    · exact Or.inl ⟨by rw [va_up_ne _ _ e]; exact h1, by rw [meter_10, if_neg e]; exact h2⟩
    · refine Or.inr ⟨p', i', mk', v', d', by rw [va_up_ne _ _ e]; exact h1, by rw [meter_10, if_neg e]; exact h2, by rw [va_up_ne _ _ (old q p' h1)]; exact h3, h4, fun b hb => ?_⟩
      rw [meter_12, if_neg (by omega)]
      exact h5 b hb
theorem RK.remove (h : RK f α S) (j : Nat) : RK (va_up f j none) α ((S.si 0 0).sa 10 j 0) := fun q hq => by
  have a10 : ∀ q, ((S.si 0 0).sa 10 j 0).a 10 q = if q = j then 0 else S.a 10 q := fun q => by
    rw [MS.sa_a]
    by_cases e : q = j
    · simp [e]
    · simp [e]
      rfl
  have a12 : ∀ q, ((S.si 0 0).sa 10 j 0).a 12 q = S.a 12 q := fun q => by rw [sa_ne (by decide)]; rfl
  by_cases e : q = j
  · subst e
    exact Or.inl ⟨va_up_self .., by rw [a10, if_pos rfl]⟩
  · rcases h q hq with ⟨h1, h2⟩ | ⟨p', i', mk', v', d', h1, h2, h3, h4, h5⟩
    · exact Or.inl ⟨by rw [va_up_ne _ _ e]; exact h1, by rw [a10, if_neg e]; exact h2⟩
    · exact Or.inr ⟨p', i', mk', v', d', by rw [va_up_ne _ _ e]; exact h1, by rw [a10, if_neg e]; exact h2, h3, h4, fun b hb => by rw [a12]; exact h5 b hb⟩
end Rel
