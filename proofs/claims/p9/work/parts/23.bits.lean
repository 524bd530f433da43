section
/-! Bits: masks and addresses. -/
theorem bl_xor (x y : Int64) (i : Nat) : bl (x ^^^ y) i = (bl x i ^^ bl y i) := by unfold bl; rw [Int64.toBitVec_xor, BitVec.getLsbD_xor]
theorem bl_ext {x y : Int64} (h : ∀ i, i < 64 → bl x i = bl y i) : x = y := Int64.toBitVec_inj.mp (BitVec.eq_of_getLsbD_eq (fun i hi => h i hi))
theorem bl_0 (i : Nat) : bl 0 i = false := BitVec.getLsbD_zero
theorem bl_big {x : Int64} {i : Nat} (h : 64 ≤ i) : bl x i = false := BitVec.getLsbD_of_ge _ _ h
theorem bl_m1 : ∀ i, i < 64 → bl (-1) i = true := by decide +kernel
theorem sh_l : ∀ n, n < 64 → (((nI n).toInt64 &&& 63).toBitVec.smod 64).toNat = n := by decide +kernel
theorem sh_u : ∀ n, n < 64 → (((nI n).toInt64.toUInt64 &&& Int64.toUInt64 63).toBitVec % 64).toNat = n := by decide +kernel
theorem bl_ushr (x : Int64) (n : Nat) (hn : n < 64) (i : Nat) : bl ((x.toUInt64 >>> ((nI n).toInt64.toUInt64 &&& Int64.toUInt64 63)).toInt64) i = bl x (n + i) := by
  unfold bl
  show (x.toUInt64 >>> ((nI n).toInt64.toUInt64 &&& Int64.toUInt64 63)).toBitVec.getLsbD i = _
  rw [UInt64.toBitVec_shiftRight, BitVec.ushiftRight_eq', BitVec.getLsbD_ushiftRight, sh_u n hn]
  rfl
theorem bl_l2i (x : Int64) (i : Nat) : bt x.toInt32 i = (decide (i < 32) && bl x i) := by
  unfold bt bl
  rw [show x.toInt32.toBitVec = x.toBitVec.signExtend 32 from rfl, BitVec.getLsbD_signExtend]
  by_cases h : i < 32
  · simp [h, show i < 64 by omega]
  · simp [h]
theorem bl_15 (i : Nat) : bl 15 i = decide (i < 4) := by
  rcases Nat.lt_or_ge i 64 with h | h
  · exact (by decide +kernel : ∀ i, i < 64 → bl 15 i = decide (i < 4)) i h
  · rw [bl_big h, decide_eq_false (by omega)]
theorem bl_255 (i : Nat) : bl 255 i = decide (i < 8) := by
  rcases Nat.lt_or_ge i 64 with h | h
  · exact (by decide +kernel : ∀ i, i < 64 → bl 255 i = decide (i < 8)) i h
  · rw [bl_big h, decide_eq_false (by omega)]
theorem by8_bit (a : Int64) {k : Nat} (hk : k < 8) {t : Nat} : bt (by8 a k &&& 255) t = (decide (t < 8) && bl a (8 * k + t)) := by
  unfold by8
  rw [b_and, b_255, bl_l2i, show (8 : Int32) * nI k = nI (8 * k) from pk_mul 8 k, bl_ushr _ _ (by omega)]
  by_cases h : t < 8
  · simp [h, show t < 32 by omega]
  · simp [h]
/-- an address against its bytes -/
def AB (a : Int64) (f : Nat → Int32) : Prop := ∀ b, b < 8 → by8 a b &&& 255 = f b
theorem AB.bit {a : Int64} {f : Nat → Int32} (h : AB a f) {t : Nat} (ht : t < 64) : bl a t = bt (f (t / 8)) (t % 8) := by
  rw [← h (t / 8) (by omega), by8_bit a (by omega), decide_eq_true (by omega), show 8 * (t / 8) + t % 8 = t by omega]
  rfl
theorem AB.of {a : Int64} {f : Nat → Int32} (hf : ∀ b, b < 8 → f b &&& 255 = f b) (h : ∀ t, t < 64 → bl a t = bt (f (t / 8)) (t % 8)) : AB a f := fun b hb => b_ext (fun t ht => by
  rw [by8_bit a hb]
  by_cases q : t < 8
  · rw [decide_eq_true q, h (8 * b + t) (by omega), show (8 * b + t) / 8 = b by omega, show (8 * b + t) % 8 = t by omega]
    rfl
  · rw [← hf b hb, b_and, b_255, decide_eq_false q]
    simp)
/-- all bits of the group (nibble or byte) of t are 1 -/
def wildT (a : Int64) (t : Nat) : Bool := if t < 32 then (List.range 4).all (fun i => bl a (4 * (t / 4) + i)) else (List.range 8).all (fun i => bl a (8 * (t / 8) + i))
theorem nib_iff (a : Int64) (j : Nat) (hj : j < 8) : (a.toUInt64 >>> ((nI (4 * j)).toInt64.toUInt64 &&& Int64.toUInt64 63)).toInt64 &&& 15 = 15 ↔ (List.range 4).all (fun i => bl a (4 * j + i)) = true := by
  rw [List.all_eq_true]
  constructor
  · intro h i hi
    have hi2 := List.mem_range.mp hi
    have := congrArg (fun x => bl x i) h
    simp only [bl_and, bl_15, bl_ushr _ _ (show 4 * j < 64 by omega), decide_eq_true hi2, Bool.and_true] at this
    exact this
  · intro h
    refine bl_ext (fun i hi => ?_)
    rw [bl_and, bl_15, bl_ushr _ _ (by omega)]
    by_cases q : i < 4
    · rw [h i (List.mem_range.mpr q)]; simp
    · simp [q]
theorem byt_iff (a : Int64) (j : Nat) (hj : 4 ≤ j ∧ j < 8) : (a.toUInt64 >>> ((nI (8 * j)).toInt64.toUInt64 &&& Int64.toUInt64 63)).toInt64 &&& 255 = 255 ↔ (List.range 8).all (fun i => bl a (8 * j + i)) = true := by
  rw [List.all_eq_true]
  constructor
  · intro h i hi
    have hi2 := List.mem_range.mp hi
    have := congrArg (fun x => bl x i) h
    simp only [bl_and, bl_255, bl_ushr _ _ (show 8 * j < 64 by omega), decide_eq_true hi2, Bool.and_true] at this
    exact this
  · intro h
    refine bl_ext (fun i hi => ?_)
    rw [bl_and, bl_255, bl_ushr _ _ (by omega)]
    by_cases q : i < 8
    · rw [h i (List.mem_range.mpr q)]; simp
    · simp [q]

section Cared
variable {a : Int64}
/-- behind j nibbles -/
def CN (a : Int64) (j : Nat) (v : Int64) : Prop := ∀ t, t < 64 → bl v t = (decide (t < 4 * j) && !wildT a t)
def CB (a : Int64) (j : Nat) (v : Int64) : Prop := ∀ t, t < 64 → bl v t = (decide (t < 32 + 8 * j) && !wildT a t)
theorem wild_lo {t : Nat} (h : t < 32) : wildT a t = (List.range 4).all (fun i => bl a (4 * (t / 4) + i)) := if_pos h
theorem wild_hi {t : Nat} (h : ¬ t < 32) : wildT a t = (List.range 8).all (fun i => bl a (8 * (t / 8) + i)) := if_neg h
theorem CN.zero : CN a 0 0 := fun t _ => by rw [bl_0]; simp
theorem CN.no {j : Nat} {v : Int64} (h : CN a j v) (hj : j < 8) (g : (a.toUInt64 >>> ((nI (4 * j)).toInt64.toUInt64 &&& Int64.toUInt64 63)).toInt64 &&& 15 = 15) : CN a (j + 1) v := fun t ht => by
  rw [h t ht]
  by_cases q : t < 4 * j
  · rw [decide_eq_true q, decide_eq_true (show t < 4 * (j + 1) by omega)]
  · rw [decide_eq_false q]
    by_cases q2 : t < 4 * (j + 1)
    · rw [decide_eq_true q2, wild_lo (by omega), show t / 4 = j by omega, (nib_iff a j hj).mp g]
      rfl
    · rw [decide_eq_false q2]
theorem CN.yes {j : Nat} {v : Int64} (h : CN a j v) (hj : j < 8) (g : ¬ (a.toUInt64 >>> ((nI (4 * j)).toInt64.toUInt64 &&& Int64.toUInt64 63)).toInt64 &&& 15 = 15) : CN a (j + 1) (v ||| (15 <<< ((nI (4 * j)).toInt64 &&& 63))) := fun t ht => by
  rw [bl_or, h t ht, bl_shl _ _ (4 * j) (sh_l _ (by omega)) ht, bl_15]
  by_cases q : t < 4 * j
  · rw [decide_eq_true q, decide_eq_true (show t < 4 * (j + 1) by omega), decide_eq_false (show ¬ 4 * j ≤ t by omega)]
    simp
  · rw [decide_eq_false q, decide_eq_true (show 4 * j ≤ t by omega)]
    by_cases q2 : t < 4 * (j + 1)
    · have e : (List.range 4).all (fun i => bl a (4 * j + i)) = false := Bool.eq_false_iff.mpr (fun e => g ((nib_iff a j hj).mpr e))
      rw [decide_eq_true q2, decide_eq_true (show t - 4 * j < 4 by omega), wild_lo (by omega), show t / 4 = j by omega, e]
      rfl
    · rw [decide_eq_false q2, decide_eq_false (show ¬ t - 4 * j < 4 by omega)]
      rfl
theorem CB.zero {v : Int64} (h : CN a 8 v) : CB a 0 v := h
theorem CB.no {j : Nat} {v : Int64} (h : CB a j v) (hj : j < 4) (g : (a.toUInt64 >>> ((nI (32 + 8 * j)).toInt64.toUInt64 &&& Int64.toUInt64 63)).toInt64 &&& 255 = 255) : CB a (j + 1) v := fun t ht => by
  rw [show 32 + 8 * j = 8 * (4 + j) by omega] at g
  rw [h t ht]
  by_cases q : t < 32 + 8 * j
  · rw [decide_eq_true q, decide_eq_true (show t < 32 + 8 * (j + 1) by omega)]
  · rw [decide_eq_false q]
    by_cases q2 : t < 32 + 8 * (j + 1)
    · rw [decide_eq_true q2, wild_hi (by omega), show t / 8 = 4 + j by omega, (byt_iff a (4 + j) (by omega)).mp g]
      rfl
    · rw [decide_eq_false q2]
theorem CB.yes {j : Nat} {v : Int64} (h : CB a j v) (hj : j < 4) (g : ¬ (a.toUInt64 >>> ((nI (32 + 8 * j)).toInt64.toUInt64 &&& Int64.toUInt64 63)).toInt64 &&& 255 = 255) : CB a (j + 1) (v ||| (255 <<< ((nI (32 + 8 * j)).toInt64 &&& 63))) := fun t ht => by
  rw [show 32 + 8 * j = 8 * (4 + j) by omega] at g
  rw [bl_or, h t ht, bl_shl _ _ (32 + 8 * j) (sh_l _ (by omega)) ht, bl_255]
  by_cases q : t < 32 + 8 * j
  · rw [decide_eq_true q, decide_eq_true (show t < 32 + 8 * (j + 1) by omega), decide_eq_false (show ¬ 32 + 8 * j ≤ t by omega)]
    simp
  · rw [decide_eq_false q, decide_eq_true (show 32 + 8 * j ≤ t by omega)]
    by_cases q2 : t < 32 + 8 * (j + 1)
    · have e : (List.range 8).all (fun i => bl a (8 * (4 + j) + i)) = false := Bool.eq_false_iff.mpr (fun e => g ((byt_iff a (4 + j) (by omega)).mpr e))
      rw [decide_eq_true q2, decide_eq_true (show t - (32 + 8 * j) < 8 by omega), wild_hi (by omega), show t / 8 = 4 + j by omega, e]
      rfl
    · rw [decide_eq_false q2, decide_eq_false (show ¬ t - (32 + 8 * j) < 8 by omega)]
      rfl
/-- all bits of the mask's groups but wildcards are the address's -/
theorem cared_iff {x cd : Int64} (h : CB a 4 cd) : (a ^^^ x) &&& cd = 0 ↔ ∀ t, t < 64 → wildT a t = true ∨ bl a t = bl x t := by
  constructor
  · intro e t ht
    have q := congrArg (fun y => bl y t) e
    simp only [bl_and, bl_xor, bl_0, h t ht, decide_eq_true (show t < 32 + 8 * 4 by omega), Bool.true_and] at q
    cases e1 : wildT a t with
    | true => exact Or.inl rfl
    | false =>
      rw [e1] at q
      refine Or.inr ?_
      cases e2 : bl a t <;> cases e3 : bl x t <;> rw [e2, e3] at q <;> first | rfl | exact absurd q (by decide)
  · intro e
    refine bl_ext (fun t ht => ?_)
    rw [bl_and, bl_xor, bl_0, h t ht, decide_eq_true (show t < 32 + 8 * 4 by omega), Bool.true_and]
    rcases e t ht with e | e
    · rw [e]; simp
    · rw [e]; simp
end Cared
section Fit
variable {x y : Int32}
theorem lo_15 : x &&& 15 = 15 ↔ ∀ i, i < 4 → bt x i = true := by
  constructor
  · intro h i hi
    have := congrArg (fun z => bt z i) h
    simp only [b_and, b_15, decide_eq_true hi, Bool.and_true] at this
    exact this
  · intro h
    refine b_ext (fun i _ => ?_)
    rw [b_and, b_15]
    by_cases q : i < 4
    · rw [h i q]; simp
    · simp [q]
theorem lo_eq : x &&& 15 = y &&& 15 ↔ ∀ i, i < 4 → bt x i = bt y i := by
  constructor
  · intro h i hi
    have := congrArg (fun z => bt z i) h
    simp only [b_and, b_15, decide_eq_true hi, Bool.and_true] at this
    exact this
  · intro h
    refine b_ext (fun i _ => ?_)
    rw [b_and, b_and, b_15]
    by_cases q : i < 4
    · rw [h i q]
    · simp [q]
theorem hib (hx : x &&& 255 = x) {i : Nat} (hi : 8 ≤ i) : bt x i = false := by
  rw [← hx, b_and, b_255, decide_eq_false (by omega), Bool.and_false]
theorem s4_bit (hx : x &&& 255 = x) {i : Nat} (hi : i < 32) : bt (x >>> ((4 : Int32) &&& 31)) i = bt x (4 + i) := by
  rw [show ((4 : Int32) &&& 31) = nI 4 &&& 31 from rfl, b_sshr 4 (by omega) x hi]
  by_cases q : 4 + i < 32
  · rw [if_pos q]
  · rw [if_neg q, hib hx (i := 31) (by omega), hib hx (by omega)]
theorem hi_15 (hx : x &&& 255 = x) : x >>> ((4 : Int32) &&& 31) = 15 ↔ ∀ i, i < 4 → bt x (4 + i) = true := by
  constructor
  · intro h i hi
    rw [← s4_bit hx (by omega), h, b_15, decide_eq_true hi]
  · intro h
    refine b_ext (fun i hi => ?_)
    rw [s4_bit hx hi, b_15]
    by_cases q : i < 4
    · rw [h i q, decide_eq_true q]
    · rw [hib hx (by omega), decide_eq_false q]
theorem hi_eq (hx : x &&& 255 = x) (hy : y &&& 255 = y) : x >>> ((4 : Int32) &&& 31) = y >>> ((4 : Int32) &&& 31) ↔ ∀ i, i < 4 → bt x (4 + i) = bt y (4 + i) := by
  constructor
  · intro h i hi
    rw [← s4_bit hx (by omega), h, s4_bit hy (by omega)]
  · intro h
    refine b_ext (fun i hi => ?_)
    rw [s4_bit hx hi, s4_bit hy hi]
    by_cases q : i < 4
    · exact h i q
    · rw [hib hx (by omega), hib hy (by omega)]
theorem by_255 (hx : x &&& 255 = x) : x = 255 ↔ ∀ i, i < 8 → bt x i = true := by
  constructor
  · intro h i hi
    rw [h, b_255, decide_eq_true hi]
  · intro h
    refine b_ext (fun i hi => ?_)
    rw [b_255]
    by_cases q : i < 8
    · rw [h i q, decide_eq_true q]
    · rw [hib hx (by omega), decide_eq_false q]
theorem by_eq (hx : x &&& 255 = x) (hy : y &&& 255 = y) : x = y ↔ ∀ i, i < 8 → bt x i = bt y i := by
  constructor
  · intro h i hi
    rw [h]
  · intro h
    refine b_ext (fun i hi => ?_)
    by_cases q : i < 8
    · exact h i q
    · rw [hib hx (by omega), hib hy (by omega)]
end Fit
theorem and_255_255 (x : Int32) : (x &&& 255) &&& 255 = x &&& 255 := b_ext (fun i _ => by rw [b_and, b_and, b_255]; cases decide (i < 8) <;> simp)
theorem AB.byte {a : Int64} {f : Nat → Int32} (h : AB a f) {b : Nat} (hb : b < 8) : f b &&& 255 = f b := by rw [← h b hb, and_255_255]
def fitB (X Y : Nat → Int32) (b : Nat) : Prop := if b < 4 then (X b &&& 15 = 15 ∨ X b &&& 15 = Y b &&& 15) ∧ (X b >>> ((4 : Int32) &&& 31) = 15 ∨ X b >>> ((4 : Int32) &&& 31) = Y b >>> ((4 : Int32) &&& 31)) else X b = 255 ∨ X b = Y b
theorem fits_iff {mk ad : Int64} {X Y : Nat → Int32} (h1 : AB mk X) (h2 : AB ad Y) : (∀ b, b < 8 → fitB X Y b) ↔ ∀ t, t < 64 → wildT mk t = true ∨ bl mk t = bl ad t := by
  constructor
  · intro h t ht
    have hb := h (t / 8) (by omega)
    unfold fitB at hb
    rw [h1.bit ht, h2.bit ht]
    by_cases q : t / 8 < 4
    · rw [if_pos q] at hb
      rw [wild_lo (show t < 32 by omega), List.all_eq_true]
      rcases (show t / 4 % 2 = 0 ∨ t / 4 % 2 = 1 by omega) with e | e
      · rcases hb.1 with g | g
        · refine Or.inl (fun i hi => ?_)
          have hi4 := List.mem_range.mp hi
          rw [h1.bit (by omega), show (4 * (t / 4) + i) / 8 = t / 8 by omega, show (4 * (t / 4) + i) % 8 = i by omega]
          exact lo_15.mp g i hi4
        · exact Or.inr (lo_eq.mp g _ (by omega))
      · rcases hb.2 with g | g
        · refine Or.inl (fun i hi => ?_)
          have hi4 := List.mem_range.mp hi
          rw [h1.bit (by omega), show (4 * (t / 4) + i) / 8 = t / 8 by omega, show (4 * (t / 4) + i) % 8 = 4 + i by omega]
          exact (hi_15 (h1.byte (by omega))).mp g i hi4
        · refine Or.inr ?_
          have := (hi_eq (h1.byte (by omega)) (h2.byte (by omega))).mp g (t % 4) (by omega)
          rw [show 4 + t % 4 = t % 8 by omega] at this
          exact this
    · rw [if_neg q] at hb
      rw [wild_hi (show ¬ t < 32 by omega), List.all_eq_true]
      rcases hb with g | g
      · refine Or.inl (fun i hi => ?_)
        have hi8 := List.mem_range.mp hi
        rw [h1.bit (by omega), show (8 * (t / 8) + i) / 8 = t / 8 by omega, show (8 * (t / 8) + i) % 8 = i by omega]
        exact (by_255 (h1.byte (by omega))).mp g i hi8
      · exact Or.inr (by rw [g])
  · intro h b hb
    unfold fitB
    by_cases q : b < 4
    · rw [if_pos q]
      have grp : ∀ n, n < 2 → (∀ i, i < 4 → bt (X b) (4 * n + i) = true) ∨ (∀ i, i < 4 → bt (X b) (4 * n + i) = bt (Y b) (4 * n + i)) := fun n hn => by
        by_cases w : wildT mk (8 * b + 4 * n) = true
        · refine Or.inl (fun i hi => ?_)
          rw [wild_lo (by omega), List.all_eq_true] at w
          have := w i (List.mem_range.mpr hi)
          rw [h1.bit (by omega), show (4 * ((8 * b + 4 * n) / 4) + i) / 8 = b by omega, show (4 * ((8 * b + 4 * n) / 4) + i) % 8 = 4 * n + i by omega] at this
          exact this
        · refine Or.inr (fun i hi => ?_)
          rcases h (8 * b + 4 * n + i) (by omega) with g | g
          · rw [wild_lo (by omega), show (8 * b + 4 * n + i) / 4 = (8 * b + 4 * n) / 4 by omega, ← wild_lo (show 8 * b + 4 * n < 32 by omega)] at g
            exact absurd g w
          · rw [h1.bit (by omega), h2.bit (by omega), show (8 * b + 4 * n + i) / 8 = b by omega, show (8 * b + 4 * n + i) % 8 = 4 * n + i by omega] at g
            exact g
      refine ⟨?_, ?_⟩
      · rcases grp 0 (by omega) with g | g
        · exact Or.inl (lo_15.mpr (fun i hi => by have := g i hi; rw [show 4 * 0 + i = i by omega] at this; exact this))
        · exact Or.inr (lo_eq.mpr (fun i hi => by have := g i hi; rw [show 4 * 0 + i = i by omega] at this; exact this))
      · rcases grp 1 (by omega) with g | g
        · exact Or.inl ((hi_15 (h1.byte hb)).mpr g)
        · exact Or.inr ((hi_eq (h1.byte hb) (h2.byte hb)).mpr g)
    · rw [if_neg q]
      by_cases w : wildT mk (8 * b) = true
      · refine Or.inl ((by_255 (h1.byte hb)).mpr (fun i hi => ?_))
        rw [wild_hi (by omega), List.all_eq_true] at w
        have := w i (List.mem_range.mpr hi)
        rw [h1.bit (by omega), show (8 * (8 * b / 8) + i) / 8 = b by omega, show (8 * (8 * b / 8) + i) % 8 = i by omega] at this
        exact this
      · refine Or.inr ((by_eq (h1.byte hb) (h2.byte hb)).mpr (fun i hi => ?_))
        rcases h (8 * b + i) (by omega) with g | g
        · rw [wild_hi (by omega), show (8 * b + i) / 8 = 8 * b / 8 by omega, ← wild_hi (show ¬ 8 * b < 32 by omega)] at g
          exact absurd g w
        · rw [h1.bit (by omega), h2.bit (by omega), show (8 * b + i) / 8 = b by omega, show (8 * b + i) % 8 = i by omega] at g
          exact g
theorem lcmp_eq {x y : Int64} : lg_cmp x y = 0 ↔ x = y := ⟨fun h => Decidable.byContradiction fun n => (lcmp_ne.mpr n) h, fun h => Decidable.byContradiction fun n => (lcmp_ne.mp n) h⟩
section Bus
variable {w : Wd} {c : Nat → ClassId} {h : PH}
theorem b_caredX (hW : Wc w c) (k : Int64) : T w gw yX0_caredBits cX0_caredBits 5 (some .long) 0 0 0 0 [.long k] (EQ h) (fun r g => (∃ v, r = some (.long v) ∧ CB k 4 v) ∧ g = h) := by
  refine T.intro (by decide +kernel) (Nat.le_of_ble_eq_true rfl) (fun z C E hn e2 e3 => ?_)
  rw [e2, e3] at *
  have L2 : ∀ (t j : Nat) (v : Int64), j + t = 4 → CB k j v → X z 0 0 (EQ h) 46 [some (.long k), none, some (.long v), none, some (.int (nI (32 + 8 * j)))] [] := by
    intro t
    induction t with
    | zero =>
      intro j v hj hv
      obtain rfl : j = 4 := by omega
      refine x_iload C dX0_caredBits_46 rfl ?_
      refine x_bipush (v := 64) C dX0_caredBits_48 (by decide) ?_
      refine x_icmp_ge (tgt := 83) C dX0_caredBits_50 (by decide) (fun c50 => ?_) (fun c50 => absurd c50 (not_not_intro (Int32.le_refl _)))
      refine x_lload_n C dX0_caredBits_83 rfl ?_
      refine x_lret C E dX0_caredBits_84 (fun h g => ⟨?_, g⟩)
      exact ⟨_, rfl, hv⟩
    | succ t ih =>
      intro j v hj hv
      refine x_iload C dX0_caredBits_46 rfl ?_
      refine x_bipush (v := 64) C dX0_caredBits_48 (by decide) ?_
      refine x_icmp_ge (tgt := 83) C dX0_caredBits_50 (by decide) (fun c50 => absurd c50 (Int32.not_le.mpr (nI_lt (show 32 + 8 * j < 64 by omega) (by decide)))) (fun c50 => ?_)
      refine x_lload_n C dX0_caredBits_53 rfl ?_
      refine x_iload C dX0_caredBits_54 rfl ?_
      refine x_lushr C dX0_caredBits_56 ?_
      refine x_ldc2 C wk_X0_91 dX0_caredBits_57 ?_
      refine x_land C dX0_caredBits_60 ?_
      refine x_ldc2 C wk_X0_91 dX0_caredBits_61 ?_
      refine x_lcmp C dX0_caredBits_64 ?_
      refine x_if_eq (tgt := 77) C dX0_caredBits_65 (by decide) (fun c65 => ?_) (fun c65 => ?_)
      · skip
        refine o_iincE (v := nI (32 + 8 * (j + 1))) (L' := [some _, none, some _, none, some _]) C dX0_caredBits_77 rfl (by rw [show (Int32.ofInt 8) = nI 8 from rfl, nI_add]; exact congrArg nI (by omega)) (by rw [hn]; decide) rfl ?_
        refine x_goto (tgt := 46) C dX0_caredBits_80 (by decide) ?_
        exact ih (j + 1) _ (by omega) (hv.no (by omega) (lcmp_eq.mp c65))
      · skip
        refine x_lload_n C dX0_caredBits_68 rfl ?_
        refine x_ldc2 C wk_X0_91 dX0_caredBits_69 ?_
        refine x_iload C dX0_caredBits_72 rfl ?_
        refine x_lshl C dX0_caredBits_74 ?_
        refine x_lor C dX0_caredBits_75 ?_
        refine o_lstore_nE (L' := [some _, none, some _, none, some _]) C dX0_caredBits_76 (by rw [hn]; decide) rfl ?_
        refine o_iincE (v := nI (32 + 8 * (j + 1))) (L' := [some _, none, some _, none, some _]) C dX0_caredBits_77 rfl (by rw [show (Int32.ofInt 8) = nI 8 from rfl, nI_add]; exact congrArg nI (by omega)) (by rw [hn]; decide) rfl ?_
        refine x_goto (tgt := 46) C dX0_caredBits_80 (by decide) ?_
        exact ih (j + 1) _ (by omega) (hv.yes (by omega) (fun q => c65 (lcmp_eq.mpr q)))
  have L1 : ∀ (t j : Nat) (v : Int64), j + t = 8 → CN k j v → X z 0 0 (EQ h) 5 [some (.long k), none, some (.long v), none, some (.int (nI (4 * j)))] [] := by
    intro t
    induction t with
    | zero =>
      intro j v hj hv
      obtain rfl : j = 8 := by omega
      refine x_iload C dX0_caredBits_5 rfl ?_
      refine x_bipush (v := 32) C dX0_caredBits_7 (by decide) ?_
      refine x_icmp_ge (tgt := 42) C dX0_caredBits_9 (by decide) (fun c9 => ?_) (fun c9 => absurd c9 (not_not_intro (Int32.le_refl _)))
      refine x_bipush (v := 32) C dX0_caredBits_42 (by decide) ?_
      refine o_istoreE (L' := [some _, none, some _, none, some _]) C dX0_caredBits_44 (by rw [hn]; decide) rfl ?_
      exact L2 4 0 _ rfl (CB.zero hv)
    | succ t ih =>
      intro j v hj hv
      refine x_iload C dX0_caredBits_5 rfl ?_
      refine x_bipush (v := 32) C dX0_caredBits_7 (by decide) ?_
      refine x_icmp_ge (tgt := 42) C dX0_caredBits_9 (by decide) (fun c9 => absurd c9 (Int32.not_le.mpr (nI_lt (show 4 * j < 32 by omega) (by decide)))) (fun c9 => ?_)
      refine x_lload_n C dX0_caredBits_12 rfl ?_
      refine x_iload C dX0_caredBits_13 rfl ?_
      refine x_lushr C dX0_caredBits_15 ?_
      refine x_ldc2 C wk_X0_89 dX0_caredBits_16 ?_
      refine x_land C dX0_caredBits_19 ?_
      refine x_ldc2 C wk_X0_89 dX0_caredBits_20 ?_
      refine x_lcmp C dX0_caredBits_23 ?_
      refine x_if_eq (tgt := 36) C dX0_caredBits_24 (by decide) (fun c24 => ?_) (fun c24 => ?_)
      · skip
        refine o_iincE (v := nI (4 * (j + 1))) (L' := [some _, none, some _, none, some _]) C dX0_caredBits_36 rfl (by rw [show (Int32.ofInt 4) = nI 4 from rfl, nI_add]; exact congrArg nI (by omega)) (by rw [hn]; decide) rfl ?_
        refine x_goto (tgt := 5) C dX0_caredBits_39 (by decide) ?_
        exact ih (j + 1) _ (by omega) (hv.no (by omega) (lcmp_eq.mp c24))
      · skip
        refine x_lload_n C dX0_caredBits_27 rfl ?_
        refine x_ldc2 C wk_X0_89 dX0_caredBits_28 ?_
        refine x_iload C dX0_caredBits_31 rfl ?_
        refine x_lshl C dX0_caredBits_33 ?_
        refine x_lor C dX0_caredBits_34 ?_
        refine o_lstore_nE (L' := [some _, none, some _, none, some _]) C dX0_caredBits_35 (by rw [hn]; decide) rfl ?_
        refine o_iincE (v := nI (4 * (j + 1))) (L' := [some _, none, some _, none, some _]) C dX0_caredBits_36 rfl (by rw [show (Int32.ofInt 4) = nI 4 from rfl, nI_add]; exact congrArg nI (by omega)) (by rw [hn]; decide) rfl ?_
        refine x_goto (tgt := 5) C dX0_caredBits_39 (by decide) ?_
        exact ih (j + 1) _ (by omega) (hv.yes (by omega) (fun q => c24 (lcmp_eq.mpr q)))
  refine x_lconst (v := 0) C dX0_caredBits_0 (by decide) ?_
  refine o_lstore_nE (L' := [some _, none, some _, none, none]) C dX0_caredBits_1 (by rw [hn]; decide) rfl ?_
  refine x_iconst (v := 0) C dX0_caredBits_2 (by decide) ?_
  refine o_istoreE (L' := [some _, none, some _, none, some _]) C dX0_caredBits_3 (by rw [hn]; decide) rfl ?_
  exact L1 8 0 _ rfl CN.zero
end Bus
end
section
/-! The class's meters against the model's, told whole. -/
theorem byt_id {x : Int32} (h : byt x) : x &&& 255 = x := by
  obtain ⟨b, h1, rfl⟩ := h
  exact (pk_andN (by omega) 8 rfl).trans (congrArg nI (Nat.mod_eq_of_lt h1))
def MQe (c : Nat → ClassId) (h : PH) (ω : Nat → Nat) (k m pg sz : Nat) (s : Nat → Int32) (P : Nat → Nat → Int32) : Prop :=
  ω m = 8 * k + 1 ∧ ω pg = 8 * k + 2 ∧ ω sz = 8 * k + 3 ∧ ∃ (gp : Nat → Option Nat) (s0 : Nat → Int32), h pg = some (.inl (c 5, 3, .inr (.inr (.inr (.inr gp))))) ∧ h sz = some (.inl (c 0, 3, .inl s0)) ∧ ∀ i, i < 3 → s0 i = s i ∧ ∃ (t : Nat) (P0 : Nat → Int32), gp i = some t ∧ ω t = 8 * k + 4 + i ∧ h t = some (.inl (c 0, 60, .inl P0)) ∧ ∀ b, b < (s i).toNatClampNeg → P0 b = P i b
/-- meter k of the model is the one at m -/
def ME (c : Nat → ClassId) (h : PH) (ω : Nat → Nat) (S : MS) (k m : Nat) (ad : Int64) : Prop := ∃ pg sz : Nat, h m = some (mF ad (S.a 11 k) (S.a 13 k) pg sz (S.a 14 k) (S.a 15 k) (S.a 16 k)) ∧ MQe c h ω k m pg sz (fun i => S.a 17 (3 * k + i)) (fun i b => S.a 18 (60 * (3 * k + i) + b))
def BTv (pt bt : Int32) : Prop := (bt = -1 ∧ pt = -1) ∨ bt = 0 ∨ bt = 1
def ER (c : Nat → ClassId) (α : Nat → Int64) (f : Nat → Option Nat) (κ ω : Nat → Nat) (S : MS) (h : PH) : Prop := (∀ q, ω q ≠ 0 → κ q ≠ 0) ∧ ∀ k, k < 12 → ∀ m, f k = some m → ME c h ω S k m (α m) ∧ BTv (S.a 14 k) (S.a 15 k)
theorem mF_inj {ad ad' : Int64} {pr se pt bt ac pr' se' pt' bt' ac' : Int32} {pg sz pg' sz' : Nat} {o : Option va_E} (h1 : o = some (mF ad pr se pg sz pt bt ac)) (h2 : o = some (mF ad' pr' se' pg' sz' pt' bt' ac')) : ad = ad' ∧ pr = pr' ∧ se = se' ∧ pg = pg' ∧ sz = sz' ∧ pt = pt' ∧ bt = bt' ∧ ac = ac' := by
  have := h1.symm.trans h2
  simp only [Option.some.injEq, Sum.inr.injEq, Prod.mk.injEq, List.cons.injEq, Value.long.injEq, Value.int.injEq, Value.ref.injEq, true_and, and_true] at this
  exact this
section ER
variable {c : Nat → ClassId} {u ma an aa n k m : Nat} {h0 h g : PH} {W : Nat → Prop} {α : Nat → Int64} {f : Nat → Option Nat} {κ ω : Nat → Nat} {S S' : MS} {pg sz : Nat} {s s' : Nat → Int32} {P P' : Nat → Nat → Int32}
theorem MQe.frame (M : MQe c h ω k m pg sz s P) (e : ∀ q, 8 * k + 2 ≤ ω q → ω q ≤ 8 * k + 6 → g q = h q) (es : ∀ i, i < 3 → s' i = s i) (eP : ∀ i b, i < 3 → b < (s i).toNatClampNeg → P' i b = P i b) : MQe c g ω k m pg sz s' P' := by
  obtain ⟨m1, m2, m3, gp, s0, m4, m5, m6⟩ := M
  refine ⟨m1, m2, m3, gp, s0, by rw [e pg (by omega) (by omega)]; exact m4, by rw [e sz (by omega) (by omega)]; exact m5, fun i hi => ?_⟩
  obtain ⟨a1, t, P0, a2, a3, a4, a5⟩ := m6 i hi
  exact ⟨a1.trans (es i hi).symm, t, P0, a2, a3, by rw [e t (by omega) (by omega)]; exact a4, fun b hb => by
    have hb' : b < (s i).toNatClampNeg := by rw [← es i hi]; exact hb
    rw [eP i b hi hb']
    exact a5 b hb'⟩
theorem ER.step (R : ER c α f κ ω S h) (hk : k < 12) (em : f k = some m) (tch : ∀ q, ω q ≠ 0 → q ≠ m → g q = h q) {pr se pt bt ac : Int32} (old : h m = some (mF (α m) pr se pg sz pt bt ac)) (gm : g m = some (mF (α m) (S'.a 11 k) (S'.a 13 k) pg sz (S'.a 14 k) (S'.a 15 k) (S'.a 16 k)))
    (oth : ∀ q j, (q = 11 ∨ q = 13 ∨ q = 14 ∨ q = 15 ∨ q = 16) → j ≠ k → S'.a q j = S.a q j) (e17 : ∀ j, S'.a 17 j = S.a 17 j) (e18 : ∀ j, S'.a 18 j = S.a 18 j) (hb : BTv (S'.a 14 k) (S'.a 15 k)) : ER c α f κ ω S' g := by
  obtain ⟨⟨pg0, sz0, d1, M0⟩, -⟩ := R.2 k hk m em
  obtain ⟨-, -, -, rfl, rfl, -⟩ := mF_inj d1 old
  refine ⟨R.1, fun j hj m' em' => ?_⟩
  by_cases e : j = k
  · subst e
    obtain rfl : m = m' := Option.some.inj (em.symm.trans em')
    exact ⟨⟨pg0, sz0, gm, M0.frame (fun q q1 q2 => tch q (by omega) (fun e => by rw [e, M0.1] at q1; omega)) (fun i _ => e17 _) (fun i b _ _ => e18 _)⟩, hb⟩
  · obtain ⟨⟨pg', sz', e1, M1⟩, b1⟩ := R.2 j hj m' em'
    have l0 := M0.1
    have l1 := M1.1
    have nm : m' ≠ m := fun q => by rw [q, l0] at l1; omega
    refine ⟨⟨pg', sz', ?_, M1.frame (fun q q1 q2 => tch q (by omega) (fun e2 => by rw [e2, l0] at q1 q2; omega)) (fun i _ => e17 _) (fun i b _ _ => e18 _)⟩, ?_⟩
    · rw [tch m' (by omega) nm, oth 11 j (by omega) e, oth 13 j (by omega) e, oth 14 j (by omega) e, oth 15 j (by omega) e, oth 16 j (by omega) e]
      exact e1
    · rw [oth 14 j (by omega) e, oth 15 j (by omega) e]
      exact b1
/-- nothing of the meters was written, nor of the model's -/
theorem ER.same (R : ER c α f κ ω S h) (tch : ∀ q, ω q ≠ 0 → g q = h q) (es : ∀ q j, (q = 11 ∨ q = 13 ∨ q = 14 ∨ q = 15 ∨ q = 16 ∨ q = 17 ∨ q = 18) → S'.a q j = S.a q j) : ER c α f κ ω S' g := by
  refine ⟨R.1, fun j hj m' em' => ?_⟩
  obtain ⟨⟨pg', sz', e1, M1⟩, b1⟩ := R.2 j hj m' em'
  have l1 := M1.1
  refine ⟨⟨pg', sz', ?_, M1.frame (fun q q1 q2 => tch q (by omega)) (fun i _ => es 17 _ (by omega)) (fun i b _ _ => es 18 _ (by omega))⟩, ?_⟩
  · rw [tch m' (by omega), es 11 j (by omega), es 13 j (by omega), es 14 j (by omega), es 15 j (by omega), es 16 j (by omega)]
    exact e1
  · rw [es 14 j (by omega), es 15 j (by omega)]
    exact b1
theorem BN.me2 (D : BN c u ma an aa h0 W α f κ n h) (hm : κ m = 1) {ad : Int64} {pr se pt bt ac : Int32} (e : h m = some (mF ad pr se pg sz pt bt ac)) : ad = α m ∧ κ pg = 2 ∧ κ sz = 4 ∧ (se = 0 ∨ se = 1) := by
  obtain ⟨pr', se', pt', bt', ac', pg', sz', B, k1, k2, k3⟩ := D.me hm
  obtain ⟨q1, -, q2, q3, q4, -⟩ := mF_inj e B
  rw [q1, q2, q3, q4]
  exact ⟨rfl, k1, k2, k3⟩
end ER
/-- the answer's row is the model's answer -/
def AN (c : Nat → ClassId) (h : PH) (an aa : Nat) (S : MS) : Prop := ∃ (g : Nat → Int32) (n : Nat), RW c h an aa g n ∧ S.i 6 = nI n ∧ ∀ j, j < n → g j = S.a 5 j
/-- the bus while its meters hear, N of them at most have answered -/
def IB (c : Nat → ClassId) (u ma an aa : Nat) (h0 : PH) (W : Nat → Prop) (α : Nat → Int64) (f : Nat → Option Nat) (κ ω : Nat → Nat) (N : Nat) (S : MS) (h : PH) : Prop :=
  BX c u ma an aa h0 W α f κ h ∧ RK f α S ∧ ER c α f κ ω S h ∧ (WFa S ∧ WFb S) ∧ h u = some (.inr (0, [.ref ma, .ref an, .int (S.i 8), .int (S.i 9)])) ∧ (¬ S.i 7 = 0 → AN c h an aa S) ∧ ∃ t, t ≤ N ∧ S.i 7 = nI t
/-! An address and its bytes. -/
section Adr
variable {i mk v d : Int32}
theorem f_byte_bit (h : rng mk v d) {b t : Nat} (hb : b < 8) (ht : t < 32) : bt (f_byte b i mk v d) t = (decide (t < 8) && bl (adr i mk v d) (8 * b + t)) := by
  unfold f_byte
  by_cases h4 : b < 4
  · rw [if_pos h4, show (8 : Int32) * nI b = nI (8 * b) from pk_mul 8 b, b_and, b_255, b_sshr _ (by omega) _ ht]
    by_cases q : t < 8
    · rw [if_pos (show 8 * b + t < 32 by omega), adr_bit h (by omega), if_pos (show 8 * b + t < 32 by omega)]
      simp [q]
    · simp [q]
  rw [if_neg h4]
  by_cases e4 : b = 4
  · subst e4
    rw [if_pos rfl, b_and, b_255]
    by_cases q : t < 8
    · rw [adr_bit h (by omega), if_neg (show ¬ 8 * 4 + t < 32 by omega), if_pos (show 8 * 4 + t < 48 by omega), show 8 * 4 + t - 32 = t by omega]
      simp [q]
    · simp [q]
  rw [if_neg e4]
  by_cases e5 : b = 5
  · subst e5
    rw [if_pos rfl, show ((8 : Int32) &&& 31) = nI 8 &&& 31 from rfl, b_sshr 8 (by omega) _ ht]
    by_cases q : t < 8
    · rw [if_pos (show 8 + t < 32 by omega), adr_bit h (by omega), if_neg (show ¬ 8 * 5 + t < 32 by omega), if_pos (show 8 * 5 + t < 48 by omega), show 8 * 5 + t - 32 = 8 + t by omega]
      simp [q]
    · by_cases q2 : 8 + t < 32
      · rw [if_pos q2, h.mm (8 + t) (by omega)]
        simp [q]
      · rw [if_neg q2, h.mm 31 (by omega)]
        simp [q]
  rw [if_neg e5]
  by_cases e6 : b = 6
  · subst e6
    rw [if_pos rfl]
    by_cases q : t < 8
    · rw [adr_bit h (by omega), if_neg (show ¬ 8 * 6 + t < 32 by omega), if_neg (show ¬ 8 * 6 + t < 48 by omega), if_pos (show 8 * 6 + t < 56 by omega), show 8 * 6 + t - 48 = t by omega]
      simp [q]
    · rw [h.vv t (by omega)]
      simp [q]
  rw [if_neg e6]
  obtain rfl : b = 7 := by omega
  by_cases q : t < 8
  · rw [adr_bit h (by omega), if_neg (show ¬ 8 * 7 + t < 32 by omega), if_neg (show ¬ 8 * 7 + t < 48 by omega), if_neg (show ¬ 8 * 7 + t < 56 by omega), show 8 * 7 + t - 56 = t by omega]
    simp [q]
  · rw [h.dd t (by omega)]
    simp [q]
theorem AB.adr (h : rng mk v d) : AB (adr i mk v d) (fun b => f_byte b i mk v d) := fun b hb => b_ext (fun t ht => by rw [by8_bit _ hb, f_byte_bit h hb ht])
end Adr
theorem RK.ab {f : Nat → Option Nat} {α : Nat → Int64} {S : MS} (h : RK f α S) {k m : Nat} (hk : k < 12) (em : f k = some m) : ¬ S.a 10 k = 0 ∧ AB (α m) (fun b => S.a 12 (8 * k + b)) := by
  rcases h k hk with ⟨h1, -⟩ | ⟨p, i, mk, v, d, h1, h2, h3, h4, h5⟩
  · rw [em] at h1; exact nomatch h1
  · obtain rfl : m = p := Option.some.inj (em.symm.trans h1)
    exact ⟨h2, fun b hb => by rw [h3, (AB.adr h4) b hb]; exact (h5 b hb).symm⟩
theorem RK.no {f : Nat → Option Nat} {α : Nat → Int64} {S : MS} (h : RK f α S) {k : Nat} (hk : k < 12) (em : f k = none) : S.a 10 k = 0 := by
  rcases h k hk with ⟨-, h1⟩ | ⟨p, i, mk, v, d, h1, -⟩
  · exact h1
  · rw [em] at h1; exact nomatch h1
theorem fits_S {S : MS} {k : Nat} {mk ad : Int64} (h1 : AB mk (fun b => S.a 3 (7 + b))) (h2 : AB ad (fun b => S.a 12 (8 * k + b))) {cd : Int64} (hc : CB mk 4 cd) : f_all S k 8 = true ↔ (mk ^^^ ad) &&& cd = 0 := by
  rw [cared_iff hc, ← fits_iff h1 h2]
  unfold f_all
  rw [List.all_eq_true]
  constructor
  · intro h b hb
    have := h b (List.mem_range.mpr hb)
    unfold fitB
    by_cases q : b < 4
    · rw [if_pos q]; exact (f_fit_lo q).mp this
    · rw [if_neg q]; exact (f_fit_hi q).mp this
  · intro h b hb
    have := h b (List.mem_range.mp hb)
    unfold fitB at this
    by_cases q : b < 4
    · rw [if_pos q] at this; exact (f_fit_lo q).mpr this
    · rw [if_neg q] at this; exact (f_fit_hi q).mpr this
/-! What is told. -/
theorem sumR_L (g : Nat → Int32) (l : List Int32) (a : Nat) : ∀ t, a + t ≤ l.length → sumR (lstF g l) a t = sumL l a (a + t)
  | 0, _ => by rw [Nat.add_zero, sumL_0]; rfl
  | t + 1, h => by
    rw [show a + (t + 1) = (a + t) + 1 by omega, sumL_s l (by omega), sumR, sumR_L g l a t (by omega), lstF_at (by omega)]
theorem seg_map (S : MS) (q o n : Nat) : S.seg q o n = (List.range n).map (fun j => S.a q (o + j)) := rfl
theorem tel_eq {S : MS} {k p N : Nat} {ad : Int64} {P0 g : Nat → Int32} {mo : Bool} (hb : WFb S) (hN : N ≤ 60) (hmo : mo = f_more S k p) (ha : AB ad (fun b => S.a 12 (8 * k + b))) (hP : ∀ b, b < N → P0 b = S.a 18 (60 * (3 * k + p) + b)) : finC g (bodyC ad (S.a 11 k) (S.a 16 k) P0 N mo) = f_tel S k p N := by
  have e1 : lenC N mo &&& 255 = nI (15 + N + if f_more S k p then 1 else 0) := by
    have : lenC N mo = nI (15 + N + if f_more S k p then 1 else 0) := by
      unfold lenC
      rw [hmo, show (15 : Int32) + nI N = nI (15 + N) from nI_add 15 N]
      split
      · exact nI_add (15 + N) 1
      · exact nI_add (15 + N) 0
    rw [this]
    exact byt_id (byt_n (by split <;> omega))
  have e2 : addrL ad 8 = S.seg 12 (8 * k) 8 := by
    unfold addrL
    rw [seg_map]
    exact List.map_congr_left (fun b hb => ha b (List.mem_range.mp hb))
  have e3 : pgL P0 N = S.seg 18 (60 * (3 * k + p)) N := by
    unfold pgL
    rw [seg_map]
    exact List.map_congr_left (fun b hb' => by rw [hP b (List.mem_range.mp hb')]; exact byt_id (hb 18 _ rfl))
  have eb : bodyC ad (S.a 11 k) (S.a 16 k) P0 N mo = f_body S k p N := by
    unfold bodyC hdC f_body
    rw [e1, e2, e3, byt_id (hb 11 k rfl), byt_id (hb 16 k rfl), hmo]
    simp only [List.nil_append, List.append_assoc, List.cons_append]
    rfl
  have el : 4 ≤ (f_body S k p N).length := by
    unfold f_body
    simp only [List.length_append, List.length_cons]
    omega
  unfold finC f_tel
  rw [eb, sumR_L g _ 4 _ (by omega), show 4 + ((f_body S k p N).length - 4) = (f_body S k p N).length by omega, and_255_255]
  rfl
end
section
/-! The bus: what a meter does, against the model's. -/
section IB
variable {w : Wd} {c : Nat → ClassId} {u ma an aa n k m N : Nat} {h0 h g : PH} {W : Nat → Prop} {α : Nat → Int64} {f : Nat → Option Nat} {κ ω : Nat → Nat} {S S' : MS} {pg sz : Nat}
theorem IB.more (I : IB c u ma an aa h0 W α f κ ω N S h) : IB c u ma an aa h0 W α f κ ω (N + 1) S h := by
  obtain ⟨i1, i2, i3, i4, i5, i6, t, t1, t2⟩ := I
  exact ⟨i1, i2, i3, i4, i5, i6, t, by omega, t2⟩
theorem IB.km (I : IB c u ma an aa h0 W α f κ ω N S h) (em : f k = some m) : κ m = 1 := by
  obtain ⟨⟨n, -, D⟩, -⟩ := I
  exact D.2.2.1 k m em
/-- what is known of meter k -/
theorem IB.me (I : IB c u ma an aa h0 W α f κ ω N S h) (hk : k < 12) (em : f k = some m) : ∃ pg sz : Nat, h m = some (mF (α m) (S.a 11 k) (S.a 13 k) pg sz (S.a 14 k) (S.a 15 k) (S.a 16 k)) ∧ MQe c h ω k m pg sz (fun i => S.a 17 (3 * k + i)) (fun i b => S.a 18 (60 * (3 * k + i) + b)) ∧ BTv (S.a 14 k) (S.a 15 k) ∧ κ pg = 2 ∧ κ sz = 4 ∧ (S.a 13 k = 0 ∨ S.a 13 k = 1) := by
  have hm := I.km em
  obtain ⟨⟨n, -, D⟩, -, R, -⟩ := I
  obtain ⟨⟨pg, sz, e, M⟩, b⟩ := R.2 k hk m em
  obtain ⟨-, k1, k2, k3⟩ := D.me2 hm e
  exact ⟨pg, sz, e, M, b, k1, k2, k3⟩
theorem IB.ap (I : IB c u ma an aa h0 W α f κ ω N S h) {q : Nat} (hq : ω q ≠ 0) : q ≠ an ∧ q ≠ aa ∧ q ≠ u ∧ q ≠ ma := by
  obtain ⟨⟨n, -, D⟩, -, R, -⟩ := I
  obtain ⟨a1, a2, a3, a4⟩ := D.apart (R.1 q hq)
  exact ⟨Ne.symm a1, Ne.symm a2, Ne.symm a3, Ne.symm a4⟩
theorem IB.step (I : IB c u ma an aa h0 W α f κ ω N S h) (hk : k < 12) (em : f k = some m) (D : BX c u ma an aa h0 W α f κ g) (tch : ∀ q, ω q ≠ 0 → q ≠ m → g q = h q) (gu : g u = h u) {pr se pt bt ac : Int32} (old : h m = some (mF (α m) pr se pg sz pt bt ac)) (gm : g m = some (mF (α m) (S'.a 11 k) (S'.a 13 k) pg sz (S'.a 14 k) (S'.a 15 k) (S'.a 16 k)))
    (oth : ∀ q j, (q = 11 ∨ q = 13 ∨ q = 14 ∨ q = 15 ∨ q = 16) → j ≠ k → S'.a q j = S.a q j) (st : ∀ q j, (q = 10 ∨ q = 12 ∨ q = 17 ∨ q = 18) → S'.a q j = S.a q j) (e8 : S'.i 8 = S.i 8) (e9 : S'.i 9 = S.i 9) (hb : BTv (S'.a 14 k) (S'.a 15 k)) (wf : WFa S' ∧ WFb S') (han : ¬ S'.i 7 = 0 → AN c g an aa S') (cnt : S'.i 7 = S.i 7 ∨ S'.i 7 = S.i 7 + 1) : IB c u ma an aa h0 W α f κ ω (N + 1) S' g := by
  obtain ⟨-, i2, i3, -, i5, -, t, t1, t2⟩ := I
  refine ⟨D, i2.sm ⟨fun j => st 10 j (by omega), fun j => st 12 j (by omega)⟩, i3.step hk em tch old gm oth (fun j => st 17 j (by omega)) (fun j => st 18 j (by omega)) hb, wf, by rw [gu, e8, e9]; exact i5, han, ?_⟩
  rcases cnt with e | e
  · exact ⟨t, by omega, e.trans t2⟩
  · exact ⟨t + 1, by omega, by rw [e, t2]; exact nI_1 t⟩
theorem WFb.shrt {c a : Int32} (h : WFb S) (hm : WFm S k) : WFb (f_short S k c a) := by
  unfold f_short
  split
  · exact (h.forget.sa (fun q => absurd q (by decide))).ack
  · split
    · exact h.asked hm
    · exact h
theorem f_short_i {c a : Int32} {q : Nat} (h6 : q ≠ 6) (h7 : q ≠ 7) : (f_short S k c a).i q = S.i q := by
  unfold f_short
  split
  · rw [f_ack_i _ h6 h7]; rfl
  · split
    · exact f_asked_i S k _ h6 h7
    · rfl
theorem HB.tel {l : List Int32} {g : Nat → Int32} (h : ∀ x ∈ l, byt x) : HB (lstF g l) l.length := fun j hj => by
  rw [lstF_at hj]
  have : l.getD j 0 ∈ l := by
    rw [List.getD_eq_getElem?_getD, List.getElem?_eq_getElem hj]
    exact List.getElem_mem hj
  exact h _ this
theorem pages_eq {s : Nat → Int32} (h : ∀ i, i < 3 → s i = S.a 17 (3 * k + i)) : mPages s = nI (f_pages S k) := by
  unfold mPages f_pages
  rw [h 2 (by decide), h 1 (by decide)]
  split
  · rfl
  · split <;> rfl
theorem pg_eq {s : Nat → Int32} {nb : Int32} (hw : WFm S k) (hb : BTv (S.a 14 k) (S.a 15 k)) (h : ∀ i, i < 3 → s i = S.a 17 (3 * k + i)) (hn : nb = 0 ∨ nb = 1) : (if mPg0 (S.a 14 k) (S.a 15 k) nb < mPages s then mPg0 (S.a 14 k) (S.a 15 k) nb else 0) = nI (f_p S k nb) := by
  have e0 : mPg0 (S.a 14 k) (S.a 15 k) nb = nI (f_p0 S k nb) ∧ f_p0 S k nb ≤ 3 := by
    rcases hb with ⟨b1, b2⟩ | b1
    · have : ¬ (0 : Int32) ≤ S.a 15 k := by rw [b1]; decide
      unfold mPg0 f_p0
      rw [if_pos b1, if_neg this]
      exact ⟨rfl, by omega⟩
    · have h0 : (0 : Int32) ≤ S.a 15 k := by rcases b1 with e | e <;> (rw [e]; decide)
      have h1 : ¬ S.a 15 k = -1 := by rcases b1 with e | e <;> (rw [e]; decide)
      obtain ⟨t, t3, te⟩ := hw.1 h0
      have ft : f_t S k = t := by unfold f_t; rw [te]; exact nI_clamp (by omega)
      unfold mPg0 f_p0
      rw [if_neg h1, if_pos h0]
      by_cases q : S.a 15 k = nb
      · rw [if_pos q, if_pos q, ft]; exact ⟨te, by omega⟩
      · rw [if_neg q, if_neg q, ft, te]; exact ⟨nI_1 t, by omega⟩
  rw [e0.1, pages_eq h]
  unfold f_p
  by_cases q : f_p0 S k nb < f_pages S k
  · rw [if_pos q, if_pos (nI_lt q (by have := f_pages_le S k; omega))]
  · rw [if_neg q, if_neg (fun g => q ((nI_ltI (by omega) (by have := f_pages_le S k; omega)).mp g))]
    rfl
theorem rl_ne {l : List Int32} {g0 : Nat → Int32} {x : Nat} (n1 : x ≠ an) (n2 : x ≠ aa) : rl c h an aa g0 l x = h x := rw_ne n1 n2
section Rows
variable {z : Fx} {cc : ByteArray} {kc ks pc : Nat} {L : List (Option Value)} {st : List Value} {lvl : Nat}
theorem AN.ack {g0 : Nat → Int32} (n0 : an ≠ aa) (h1 : PH) : AN c (rowh c h1 an aa (upd g0 0 229) 1) an aa (f_ack S) := ⟨_, 1, RW.of n0 (by decide), rfl, fun j hj => by
  obtain rfl : j = 0 := by omega
  show _ = (((S.si 7 (S.i 7 + 1)).sa 5 0 229).si 6 1).a 5 0
  rw [MS.si_a, MS.sa_a, if_pos ⟨rfl, rfl⟩]
  simp [upd]⟩
/-- meter.hearsShort -/
theorem k_shortX (hX : Wx w c) (C : Cx z RX0 cc gw) (Y : Cty z c) (E : Cs z w lvl (40 * lvl)) (hl : 4 < lvl) (hk : k < 12) (em : f k = some m) (I : IB c u ma an aa h0 W α f κ ω N S h) (cm a : Int32) (d : decode cc pc = .ok (.invokevirtual 61, 3)) (hcat : (st.map fun v => v.category).sum ≤ 8)
    (kk : ∀ (g : PH) (x : Int32), (x = 0 ∨ x = 1) → S.i 7 + x = (f_short S k cm a).i 7 → IB c u ma an aa h0 W α f κ ω (N + 1) (f_short S k cm a) g → X z kc ks (EQ g) (pc + 3) L (.int x :: st)) : X z kc ks (EQ h) pc L (.ref an :: .int a :: .int cm :: .ref m :: st) := by
  have hW := hX.1
  have hm := I.km em
  obtain ⟨pg, sz, B, M, hb, k1, k2, k3⟩ := I.me hk em
  obtain ⟨n, g0, n90, Dn, R, hbt⟩ := I.1.row
  have am := I.ap (q := m) (by rw [M.1]; omega)
  have hwa := I.2.2.2.1.1
  have hwb := I.2.2.2.1.2
  by_cases e1 : cm = 64
  · subst e1
    refine u_callV (st := st) C Y hW E (t_short_r hW B k3 R (Ne.symm am.1) (Ne.symm am.2.1) a) md_X2_hearsShort wi_X2_hearsShort ws_X2_hearsShort wm_X0_61 d rfl (by omega) (by decide) B rfl rfl hcat ?_
    have eS : f_short S k 64 a = f_ack ((f_forget S k).sa 13 k (bI (¬ S.a 13 k = 0 ∧ ¬ a = 253))) := if_pos rfl
    have se : (if a = 253 then (0 : Int32) else S.a 13 k) = bI (¬ S.a 13 k = 0 ∧ ¬ a = 253) := by
      by_cases q : a = 253
      · rw [if_pos q, bI_f (fun x => x.2 q)]
      · rw [if_neg q]
        rcases k3 with e | e
        · rw [e, bI_f (fun x => x.1 rfl)]
        · rw [e, bI_t ⟨by decide, q⟩]
    have D2 := (Dn.putM hm (S.a 11 k) (if a = 253 then (0 : Int32) else S.a 13 k) (-1) (-1) (S.a 16 k) k1 k2 (by split; exact Or.inl rfl; exact k3)).single g0
    have af : ∀ q j, q ≠ 5 → (f_short S k 64 a).a q j = if q = 13 ∧ j = k then bI (¬ S.a 13 k = 0 ∧ ¬ a = 253) else if q = 14 ∧ j = k then -1 else if q = 15 ∧ j = k then -1 else S.a q j := fun q j hq => by rw [eS, f_ack_a _ hq, MS.sa_a, f_forget, MS.sa_a, MS.sa_a]
    refine kk _ 1 (Or.inr rfl) (by rw [eS]; rfl) (I.step hk em D2 (fun q hq nq => ?_) ?_ B ?_ (fun q j hq nj => ?_) (fun q j hq => ?_) (f_short_i (by decide) (by decide)) (f_short_i (by decide) (by decide)) ?_ ⟨fun j hj => (hwa j hj).shrt, hwb.shrt (hwa k hk)⟩ (fun _ => ?_) (Or.inr (by rw [eS]; rfl)))
    · have aq := I.ap hq
      rw [rw_ne aq.1 aq.2.1, hs_ne nq]
    · obtain ⟨l1, l2, l3⟩ := (show u ≠ an ∧ u ≠ aa ∧ u ≠ m from ⟨Dn.2.2.2.2.2.1.2.2.2.2.2.1, Dn.2.2.2.2.2.1.2.2.2.2.2.2.1, Ne.symm am.2.2.1⟩)
      rw [rw_ne l1 l2, hs_ne l3]
    · rw [rw_ne am.1 am.2.1, hs_self, af 11 k (by decide), af 13 k (by decide), af 14 k (by decide), af 15 k (by decide), af 16 k (by decide), se]
      simp
    · rw [af q j (by omega)]
      simp [nj]
    · rw [af q j (by omega)]
      simp [show q ≠ 13 by omega, show q ≠ 14 by omega, show q ≠ 15 by omega]
    · rw [af 14 k (by decide), af 15 k (by decide)]
      simp
      exact Or.inl ⟨rfl, rfl⟩
    · rw [eS]; exact AN.ack R.1 _
  · by_cases e2 : cm = 91 ∨ cm = 123
    · have hn : (if cm = 123 then (1 : Int32) else 0) = 0 ∨ (if cm = 123 then (1 : Int32) else 0) = 1 := by split; exact Or.inr rfl; exact Or.inl rfl
      have eS : f_short S k cm a = f_asked S k (if cm = 123 then 1 else 0) := by unfold f_short; rw [if_neg e1, if_pos e2]
      have hkn : (cm = 91 ∧ (if cm = 123 then (1 : Int32) else 0) = 0) ∨ (cm = 123 ∧ (if cm = 123 then (1 : Int32) else 0) = 1) := by
        rcases e2 with e | e
        · exact Or.inl ⟨e, by rw [e]; rfl⟩
        · exact Or.inr ⟨e, by rw [e]; rfl⟩
      generalize (if cm = 123 then (1 : Int32) else 0) = nb at hn eS hkn
      obtain ⟨m1, m2, m3, gp, s0, m4, m5, m6⟩ := M
      have p3 : f_p S k nb < 3 := f_p_lt S k nb
      obtain ⟨s1, t, P0, a2, a3, a4, a5⟩ := m6 _ p3
      have hes : ∀ i, i < 3 → s0 i = S.a 17 (3 * k + i) := fun i hi => (m6 i hi).1
      obtain ⟨N60, eN⟩ := (hwa k hk).N p3
      have apg := I.ap (q := pg) (by omega)
      have asz := I.ap (q := sz) (by omega)
      have att := I.ap (q := t) (by omega)
      have hpg := pg_eq (hwa k hk) hb hes hn
      have ta := t_askX hX B p3 m5 hpg (s1.trans eN) N60 m4 a2 a4 R ⟨am.1, am.2.1⟩ ⟨asz.1, asz.2.1⟩ ⟨apg.1, apg.2.1⟩ ⟨att.1, att.2.1⟩ (fun e => by rw [e] at m3; omega) (fun e => by rw [e] at m2; omega) (fun e => by rw [e] at a3; omega) cm a hkn
      have hmo : decide (nI (f_p S k nb) + 1 < mPages s0) = f_more S k (f_p S k nb) := by
        rw [pages_eq hes, show nI (f_p S k nb) + 1 = nI (f_p S k nb + 1) from nI_1 _]
        unfold f_more
        exact decide_eq_decide.mpr (nI_ltI (by omega) (by have := f_pages_le S k; omega))
      have eNc : (S.a 17 (3 * k + f_p S k nb)).toNatClampNeg = f_N S k (f_p S k nb) := rfl
      rw [tel_eq hwb N60 hmo (I.2.1.ab hk em).2 (fun b hb => a5 b (by rw [eNc]; exact hb))] at ta
      have lt : (f_tel S k (f_p S k nb) (f_N S k (f_p S k nb))).length ≤ 90 := by rw [f_tel_len]; split <;> omega
      have hbt2 := f_tel_byt hwb (k := k) (p := f_p S k nb) N60
      have eA : f_asked S k nb = ((((S.ans (f_tel S k (f_p S k nb) (f_N S k (f_p S k nb)))).sa 14 k (nI (f_p S k nb))).sa 15 k nb).sa 16 k ((S.a 16 k + 1) &&& 255)).si 7 (S.i 7 + 1) := rfl
      generalize f_tel S k (f_p S k nb) (f_N S k (f_p S k nb)) = FT at ta lt hbt2 eA
      refine u_callV (st := st) C Y hW E ta md_X2_hearsShort wi_X2_hearsShort ws_X2_hearsShort wm_X0_61 d rfl (by omega) (by decide) B rfl rfl hcat ?_
      have D2 : BX c u ma an aa h0 W α f κ (hs (rl c (hs h m (mF (α m) (S.a 11 k) (S.a 13 k) pg sz (nI (f_p S k nb)) nb (S.a 16 k))) an aa g0 FT) m (mF (α m) (S.a 11 k) (S.a 13 k) pg sz (nI (f_p S k nb)) nb ((S.a 16 k + 1) &&& 255))) := ⟨FT.length, lt, ((Dn.putM hm _ _ _ _ _ k1 k2 k3).putA (by omega) (HB.tel hbt2)).putM hm _ _ _ _ _ k1 k2 k3⟩
      have af : ∀ q j, q ≠ 5 → (f_short S k cm a).a q j = if q = 16 ∧ j = k then (S.a 16 k + 1) &&& 255 else if q = 15 ∧ j = k then nb else if q = 14 ∧ j = k then nI (f_p S k nb) else S.a q j := fun q j hq => by rw [eS, eA, MS.si_a, MS.sa_a, MS.sa_a, MS.sa_a, MS.ans_ne hq]
      refine kk _ 1 (Or.inr rfl) (by rw [eS, eA]; rfl) (I.step hk em D2 (fun q hq nq => ?_) ?_ B ?_ (fun q j hq nj => ?_) (fun q j hq => ?_) (f_short_i (by decide) (by decide)) (f_short_i (by decide) (by decide)) ?_ ⟨fun j hj => (hwa j hj).shrt, hwb.shrt (hwa k hk)⟩ (fun _ => ?_) (Or.inr (by rw [eS, eA]; rfl)))
      · have aq := I.ap hq
        rw [hs_ne nq, rl_ne aq.1 aq.2.1, hs_ne nq]
      · have l3 : u ≠ m := Ne.symm am.2.2.1
        rw [hs_ne l3, rl_ne Dn.2.2.2.2.2.1.2.2.2.2.2.1 Dn.2.2.2.2.2.1.2.2.2.2.2.2.1, hs_ne l3]
      · rw [hs_self, af 11 k (by decide), af 13 k (by decide), af 14 k (by decide), af 15 k (by decide), af 16 k (by decide)]
        simp
      · rw [af q j (by omega)]
        simp [nj]
      · rw [af q j (by omega)]
        simp [show q ≠ 16 by omega, show q ≠ 14 by omega, show q ≠ 15 by omega]
      · rw [af 14 k (by decide), af 15 k (by decide)]
        simp
        exact Or.inr hn
      · have na : an ≠ m := Ne.symm am.1
        have nb2 : aa ≠ m := Ne.symm am.2.1
        have Rr : RW c (rl c (hs h m (mF (α m) (S.a 11 k) (S.a 13 k) pg sz (nI (f_p S k nb)) nb (S.a 16 k))) an aa g0 FT) an aa (lstF g0 FT) FT.length := rl_RW R.1 (by omega)
        refine ⟨lstF g0 FT, FT.length, ⟨Rr.1, by rw [hs_ne na]; exact Rr.2.1, by rw [hs_ne nb2]; exact Rr.2.2.1, Rr.2.2.2⟩, by rw [eS, eA]; rfl, fun j hj => ?_⟩
        rw [eS, eA, MS.si_a, sa_ne (by decide), sa_ne (by decide), sa_ne (by decide), MS.ans_5 hj, lstF_at hj]
    · have eS : f_short S k cm a = S := by unfold f_short; rw [if_neg e1, if_neg e2]
      refine u_callV (st := st) C Y hW E (t_short_n hW cm a e1 (fun q => e2 (Or.inl q)) (fun q => e2 (Or.inr q)) m an) md_X2_hearsShort wi_X2_hearsShort ws_X2_hearsShort wm_X0_61 d rfl (by omega) (by decide) B rfl rfl hcat ?_
      exact kk _ 0 (Or.inl rfl) (by rw [eS]; exact Int32.add_zero _) (by rw [eS]; exact I.more)
end Rows
end IB
end
section
/-! The bus: frames put on it, against the model's. -/
/-- the bus at rest -/
def BB (c : Nat → ClassId) (u ma an aa : Nat) (h0 : PH) (W : Nat → Prop) (α : Nat → Int64) (f : Nat → Option Nat) (κ ω : Nat → Nat) (S : MS) (h : PH) : Prop :=
  BX c u ma an aa h0 W α f κ h ∧ RK f α S ∧ ER c α f κ ω S h ∧ (WFa S ∧ WFb S) ∧ h u = some (.inr (0, [.ref ma, .ref an, .int (S.i 8), .int (S.i 9)]))
def outV (S : MS) : Int32 := if S.i 7 = 1 then S.i 6 else if S.i 7 = 0 then 0 else -2
/-- what came is in the row an -/
def AW (c : Nat → ClassId) (h : PH) (an aa : Nat) (S : MS) : Prop := ∃ (g : Nat → Int32) (n : Nat), RW c h an aa g n ∧ (S.i 7 = 1 → S.i 6 = nI n ∧ ∀ j, j < n → g j = S.a 5 j) ∧ (¬ S.i 7 = 1 → n = 0)
def OC (c : Nat → ClassId) (u ma an aa : Nat) (h0 : PH) (W : Nat → Prop) (α : Nat → Int64) (f : Nat → Option Nat) (κ ω : Nat → Nat) (S : MS) (r : Option Value) (h : PH) : Prop := r = some (.int (outV S)) ∧ BB c u ma an aa h0 W α f κ ω S h ∧ AW c h an aa S
section Bus
variable {w : Wd} {c : Nat → ClassId} {u ma an aa n k m N : Nat} {h0 h g : PH} {W : Nat → Prop} {α : Nat → Int64} {f : Nat → Option Nat} {κ ω : Nat → Nat} {S S' : MS} {pg sz : Nat}
theorem rCut_0 (hn : n ≤ 300) : rCut n 0 = 0 := by
  unfold rCut
  split
  · rfl
  · rename_i q
    exact Decidable.byContradiction fun q2 => q ⟨Int32.le_refl _, nI_lt (a := 0) (show 0 < n by omega) (by omega)⟩
theorem BX.apu (D : BX c u ma an aa h0 W α f κ h) : u ≠ ma ∧ u ≠ an ∧ u ≠ aa := by
  obtain ⟨n, -, D⟩ := D
  exact ⟨D.2.2.2.2.2.1.2.2.2.2.1, D.2.2.2.2.2.1.2.2.2.2.2.1, D.2.2.2.2.2.1.2.2.2.2.2.2.1⟩
theorem u_outcomeX (hX : Wx w c) (I : IB c u ma an aa h0 W α f κ ω 12 S h) (a : Int32) {y : Int32} (hy : y = if a = 255 then 0 else S.i 7) : T w gw yX0_outcome cX0_outcome 2 (some .int) 1 (40 * 1) 0 0 [.ref u, .int y] (EQ h) (OC c u ma an aa h0 W α f κ ω (f_end S a)) := by
  have hW := hX.1
  refine TA.intro hW rfl (by decide +kernel) (Nat.le_of_ble_eq_true rfl) (fun z C Y E hn h1 hA => ?_)
  rw [show h1 = h from hA]
  clear hA
  obtain ⟨i1, i2, i3, i4, B, i6, t, t1, t2⟩ := I
  obtain ⟨n, g0, n90, Dn, R, hbt⟩ := i1.row
  obtain ⟨ap1, ap2, ap3⟩ := i1.apu
  have e7 : (f_end S a).i 7 = y := by
    unfold f_end
    rw [MS.si_i, if_neg (by decide), MS.si_i, if_pos rfl]
    exact hy.symm
  have e9 : (f_end S a).i 9 = S.i 9 + if 1 < y then 1 else 0 := by
    unfold f_end
    rw [MS.si_i, if_pos rfl, hy]
  have e6 : (f_end S a).i 6 = S.i 6 := rfl
  have e8 : (f_end S a).i 8 = S.i 8 := rfl
  have ea : ∀ q j, (f_end S a).a q j = S.a q j := fun _ _ => rfl
  have hy2 : ∃ t, t ≤ 12 ∧ y = nI t := by
    rw [hy]
    split
    · exact ⟨0, by omega, rfl⟩
    · exact ⟨t, t1, t2⟩
  have oR : outV (f_end S a) = if y = 1 then S.i 6 else if y = 0 then 0 else -2 := by unfold outV; rw [e7, e6]
  have wf : WFa (f_end S a) ∧ WFb (f_end S a) := ⟨i4.1.fin, i4.2.fin⟩
  have rk : RK f α (f_end S a) := i2.sm ⟨fun _ => rfl, fun _ => rfl⟩
  generalize f_end S a = T at e7 e9 e6 e8 ea oR wf rk E
  obtain ⟨ty, ty1, ty2⟩ := hy2
  refine x_iload_n C dX0_outcome_0 rfl ?_
  refine x_iconst (v := 1) C dX0_outcome_1 (by decide) ?_
  refine x_icmp_ne (tgt := 13) C dX0_outcome_2 (by decide) (fun q1 => ?_) (fun q1 => ?_)
  · have rc := r_cutTo hW R 0
    rw [rCut_0 R.2.2.2] at rc
    refine x_aload_n C dX0_outcome_13 rfl ?_
    refine e_get C Y kd_X0 1 (by decide) wf_X0_20 dX0_outcome_14 B rfl ?_
    refine x_iconst (v := 0) C dX0_outcome_17 (by decide) ?_
    refine u_callV (st := []) C Y hW E.cs rc md_X5_cutTo wi_X5_cutTo ws_X5_cutTo wm_X0_96 dX0_outcome_18 rfl (by decide) (by decide) R.2.1 rfl rfl (by decide) ?_
    have D0 : BX c u ma an aa h0 W α f κ (rowh c h an aa g0 0) := ⟨0, by decide, Dn.putA (by decide) (fun j hj => absurd hj (Nat.not_lt_zero j))⟩
    have R0 : RW c (rowh c h an aa g0 0) an aa g0 0 := RW.of R.1 (by decide)
    have B0 : rowh c h an aa g0 0 u = some (.inr (0, [.ref ma, .ref an, .int (S.i 8), .int (S.i 9)])) := (rw_ne ap2 ap3).trans B
    have er : ER c α f κ ω T (rowh c h an aa g0 0) := i3.same (fun q hq => by
      obtain ⟨a1, a2, -⟩ := Dn.apart (i3.1 q hq)
      exact rw_ne (Ne.symm a1) (Ne.symm a2)) (fun q j _ => ea q j)
    refine x_iload_n C dX0_outcome_21 rfl ?_
    refine x_if_ne (tgt := 27) C dX0_outcome_22 (by decide) (fun q0 => ?_) (fun q0 => ?_)
    · have gt : 1 < y := by
        rw [ty2]
        refine nI_lt (a := 1) (Nat.lt_of_not_le fun q => ?_) (by omega)
        rcases (show ty = 0 ∨ ty = 1 by omega) with e | e
        · exact q0 (by rw [ty2, e]; rfl)
        · exact q1 (by rw [ty2, e]; rfl)
      rw [if_pos gt] at e9
      refine x_aload_n C dX0_outcome_27 rfl ?_
      refine x_dup C dX0_outcome_28 rfl ?_
      refine e_get C Y kd_X0 3 (by decide) wf_X0_28 dX0_outcome_29 B0 rfl ?_
      refine x_iconst (v := 1) C dX0_outcome_32 (by decide) ?_
      refine x_iadd C dX0_outcome_33 ?_
      refine e_put C Y kd_X0 3 (by decide) rfl wf_X0_28 dX0_outcome_34 B0 (Nat.le_of_ble_eq_true rfl) rfl rfl rfl ?_
      refine x_bipush (v := -2) C dX0_outcome_37 (by decide) ?_
      refine x_iret C E dX0_outcome_39 (fun q e => ?_)
      rw [show q = _ from e]
      refine ⟨by rw [oR, if_neg q1, if_neg q0], ⟨D0.putU _ _, rk, er.same (fun q hq => hs_ne (fun e => (i3.1 q hq) (by rw [e]; exact Dn.2.2.2.2.2.1.1))) (fun _ _ _ => rfl), wf, by rw [hs_self, e8, e9]; rfl⟩, g0, 0, ⟨R0.1, by rw [hs_ne (Ne.symm ap2)]; exact R0.2.1, by rw [hs_ne (Ne.symm ap3)]; exact R0.2.2.1, R0.2.2.2⟩, fun q => absurd (e7.symm.trans q) q1, fun _ => rfl⟩
    · have gt : ¬ 1 < y := by rw [q0]; decide
      rw [if_neg gt] at e9
      refine x_iconst (v := 0) C dX0_outcome_25 (by decide) ?_
      refine x_iret C E dX0_outcome_26 (fun q e => ?_)
      rw [show q = _ from e]
      exact ⟨by rw [oR, if_neg q1, if_pos q0], ⟨D0, rk, er, wf, by rw [e8, e9, Int32.add_zero]; exact B0⟩, g0, 0, R0, fun q => absurd (e7.symm.trans q) q1, fun _ => rfl⟩
  · have n7 : ¬ S.i 7 = 0 := fun q => by
      rw [q, ite_self] at hy
      rw [hy] at q1
      exact absurd q1 (by decide)
    obtain ⟨g1, n1, R1, e61, eg⟩ := i6 n7
    have gt : ¬ 1 < y := by rw [q1]; decide
    rw [if_neg gt] at e9
    refine x_aload_n C dX0_outcome_5 rfl ?_
    refine e_get C Y kd_X0 1 (by decide) wf_X0_20 dX0_outcome_6 B rfl ?_
    refine u_callV (st := []) C Y hW E.cs (r_size hW R1) md_X5_size wi_X5_size ws_X5_size wm_X0_93 dX0_outcome_9 rfl (by decide) (by decide) R1.2.1 rfl rfl (by decide) ?_
    refine x_iret C E dX0_outcome_12 (fun q e => ?_)
    rw [show q = _ from e]
    exact ⟨by rw [oR, if_pos q1, e61], ⟨i1, rk, i3.same (fun _ _ => rfl) (fun q j _ => ea q j), wf, by rw [e8, e9, Int32.add_zero]; exact B⟩, g1, n1, R1, fun _ => ⟨e6.trans e61, fun j hj => (eg j hj).trans (ea 5 j).symm⟩, fun q => absurd (e7.trans q1) q⟩
/-- the bus begins -/
theorem BB.begin (D : BB c u ma an aa h0 W α f κ ω S h) : IB c u ma an aa h0 W α f κ ω 0 (f_begin S) (hs h u (.inr (0, [.ref ma, .ref an, .int (S.i 8 + 1), .int (S.i 9)]))) := by
  obtain ⟨i1, i2, i3, i4, B⟩ := D
  obtain ⟨n, g0, n90, Dn, R, hbt⟩ := i1.row
  exact ⟨i1.putU _ _, i2.sm ⟨fun _ => rfl, fun _ => rfl⟩, i3.same (fun q hq => hs_ne (fun e => (i3.1 q hq) (by rw [e]; exact Dn.2.2.2.2.2.1.1))) (fun _ _ _ => rfl), ⟨i4.1.bg, i4.2.bg⟩, by rw [hs_self]; rfl, fun q => absurd rfl q, 0, Nat.le_refl _, rfl⟩
theorem step_no {isS sel : Bool} {cm a : Int32} (e : S.a 10 k = 0) : f_step S isS sel cm a k = S := if_neg (fun q => q.1 e)
theorem step_nc {isS sel : Bool} {cm a : Int32} (e : ¬ f_cares S sel a k) : f_step S isS sel cm a k = S := if_neg e
theorem step_S {cm a : Int32} (e : f_cares S false a k) : f_step S true false cm a k = f_short S k cm a := (if_pos e).trans rfl
theorem step_L {cm a : Int32} (e : f_cares S false a k) (hc : cm = 83 ∨ cm = 115) : f_step S false false cm a k = f_long S k := by
  rw [f_step, if_pos e, f_does, if_neg (by decide), if_neg (by decide), if_pos hc]
theorem step_M {cm a : Int32} (e : ¬ S.a 10 k = 0) : f_step S false true cm a k = f_sel S k := by rw [step_sel, if_neg e]
theorem cares_iff {a : Int32} (h10 : ¬ S.a 10 k = 0) (hse : S.a 13 k = 0 ∨ S.a 13 k = 1) : f_cares S false a k ↔ mMeant (S.a 11 k) (S.a 13 k) a := by
  have n0 : ¬ S.a 13 k = 0 ↔ S.a 13 k = 1 := ⟨fun q => hse.resolve_left q, fun q => by rw [q]; decide⟩
  have l4 : (254 : Int32) ≤ a ↔ 253 < a := by
    rw [Int32.le_iff_toInt_le, Int32.lt_iff_toInt_lt, show (254 : Int32).toInt = 254 from by decide, show (253 : Int32).toInt = 253 from by decide]
    omega
  unfold f_cares mMeant
  by_cases q1 : a ≤ 250
  · rw [if_pos q1]
    have q2 : ¬ a = 253 := fun e => absurd (by rw [e] at q1; exact q1) (by decide : ¬ (253 : Int32) ≤ 250)
    have q3 : ¬ (254 : Int32) ≤ a := fun e => absurd (Int32.le_trans e q1) (by decide)
    constructor
    · intro g
      rcases g.2 with g | g | g | g
      · exact absurd g (by decide)
      · exact g.2.symm
      · exact absurd g.1 q2
      · exact absurd g q3
    · intro g
      exact ⟨h10, Or.inr (Or.inl ⟨q1, g.symm⟩)⟩
  · rw [if_neg q1]
    by_cases q2 : a = 253
    · rw [if_pos q2]
      constructor
      · intro g
        rcases g.2 with g | g | g | g
        · exact absurd g (by decide)
        · exact absurd g.1 q1
        · exact n0.mp g.2
        · rw [q2] at g; exact absurd g (by decide)
      · intro g
        exact ⟨h10, Or.inr (Or.inr (Or.inl ⟨q2, n0.mpr g⟩))⟩
    · rw [if_neg q2, ← l4]
      constructor
      · intro g
        rcases g.2 with g | g | g | g
        · exact absurd g (by decide)
        · exact absurd g.1 q1
        · exact absurd g.1 q2
        · exact g
      · intro g
        exact ⟨h10, Or.inr (Or.inr (Or.inr g))⟩
section Rows
variable {z : Fx} {cc : ByteArray} {kc ks pc : Nat} {L : List (Option Value)} {st : List Value} {lvl : Nat}
/-- meter.isMeant -/
theorem k_meantX (hX : Wx w c) (C : Cx z RX0 cc gw) (Y : Cty z c) (E : Cs z w lvl (40 * lvl)) (hl : 4 < lvl) (hk : k < 12) (em : f k = some m) (I : IB c u ma an aa h0 W α f κ ω N S h) (a : Int32) (d : decode cc pc = .ok (.invokevirtual 57, 3)) (hcat : (st.map fun v => v.category).sum ≤ 8)
    (kk : ∀ x : Int32, (x = 0 ↔ ¬ f_cares S false a k) → X z kc ks (EQ h) (pc + 3) L (.int x :: st)) : X z kc ks (EQ h) pc L (.int a :: .ref m :: st) := by
  have hW := hX.1
  obtain ⟨pg, sz, B, M, hb, k1, k2, k3⟩ := I.me hk em
  refine u_callV (st := st) C Y hW E (t_isMeant hW B k3 a) md_X2_isMeant wi_X2_isMeant ws_X2_isMeant wm_X0_57 d rfl (by omega) (by decide) B rfl rfl hcat (kk _ ?_)
  rw [cares_iff (I.2.1.ab hk em).1 k3]
  exact bI_0
/-- meter.looksAtMask -/
theorem k_looksX (hX : Wx w c) (C : Cx z RX0 cc gw) (Y : Cty z c) (E : Cs z w lvl (40 * lvl)) (hl : 4 < lvl) (hk : k < 12) (em : f k = some m) (I : IB c u ma an aa h0 W α f κ ω N S h) {mk cd : Int64} (hm1 : AB mk (fun b => S.a 3 (7 + b))) (hc : CB mk 4 cd) (d : decode cc pc = .ok (.invokevirtual 69, 3)) (hcat : (st.map fun v => v.category).sum ≤ 8)
    (kk : ∀ (g : PH) (x : Int32), (x = 0 ∨ x = 1) → S.i 7 + x = (f_sel S k).i 7 → IB c u ma an aa h0 W α f κ ω (N + 1) (f_sel S k) g → X z kc ks (EQ g) (pc + 3) L (.int x :: st)) : X z kc ks (EQ h) pc L (.ref an :: .long cd :: .long mk :: .ref m :: st) := by
  have hW := hX.1
  have hm := I.km em
  obtain ⟨pg, sz, B, M, hb, k1, k2, k3⟩ := I.me hk em
  obtain ⟨n, g0, n90, Dn, R, hbt⟩ := I.1.row
  have am := I.ap (q := m) (by rw [M.1]; omega)
  have hwa := I.2.2.2.1.1
  have hwb := I.2.2.2.1.2
  have fi := fits_S hm1 (I.2.1.ab hk em).2 hc
  obtain ⟨ap1, ap2, ap3⟩ := I.1.apu
  by_cases gA : (mk ^^^ α m) &&& cd = 0
  · have eS : f_sel S k = f_ack (S.sa 13 k 1) := if_pos (fi.mpr gA)
    have af : ∀ q j, q ≠ 5 → (f_sel S k).a q j = if q = 13 ∧ j = k then 1 else S.a q j := fun q j hq => by rw [eS, f_ack_a _ hq, MS.sa_a]
    refine u_callV (st := st) C Y hW E (t_looks_t hW B R (Ne.symm am.1) (Ne.symm am.2.1) mk cd gA) md_X2_looksAtMask wi_X2_looksAtMask ws_X2_looksAtMask wm_X0_69 d rfl (by omega) (by decide) B rfl rfl hcat ?_
    have D2 := (Dn.putM hm (S.a 11 k) 1 (S.a 14 k) (S.a 15 k) (S.a 16 k) k1 k2 (Or.inr rfl)).single g0
    refine kk _ 1 (Or.inr rfl) (by rw [eS]; rfl) (I.step hk em D2 (fun q hq nq => ?_) ?_ B ?_ (fun q j hq nj => ?_) (fun q j hq => ?_) (by rw [eS]; rfl) (by rw [eS]; rfl) ?_ ⟨fun j hj => (hwa j hj).sel, hwb.sel⟩ (fun _ => by rw [eS]; exact AN.ack R.1 _) (Or.inr (by rw [eS]; rfl)))
    · have aq := I.ap hq
      rw [rw_ne aq.1 aq.2.1, hs_ne nq]
    · rw [rw_ne ap2 ap3, hs_ne (Ne.symm am.2.2.1)]
    · rw [rw_ne am.1 am.2.1, hs_self, af 11 k (by decide), af 13 k (by decide), af 14 k (by decide), af 15 k (by decide), af 16 k (by decide)]
      simp
    · rw [af q j (by omega)]
      simp [nj]
    · rw [af q j (by omega)]
      simp [show q ≠ 13 by omega]
    · rw [af 14 k (by decide), af 15 k (by decide)]
      simp
      exact hb
  · have eS : f_sel S k = S.sa 13 k 0 := if_neg (fun q => gA (fi.mp q))
    have af : ∀ q j, (f_sel S k).a q j = if q = 13 ∧ j = k then 0 else S.a q j := fun q j => by rw [eS, MS.sa_a]
    refine u_callV (st := st) C Y hW E (t_looks_f hW B an mk cd gA) md_X2_looksAtMask wi_X2_looksAtMask ws_X2_looksAtMask wm_X0_69 d rfl (by omega) (by decide) B rfl rfl hcat ?_
    have D2 : BX c u ma an aa h0 W α f κ (hs h m (mF (α m) (S.a 11 k) 0 pg sz (S.a 14 k) (S.a 15 k) (S.a 16 k))) := ⟨n, n90, Dn.putM hm (S.a 11 k) 0 (S.a 14 k) (S.a 15 k) (S.a 16 k) k1 k2 (Or.inl rfl)⟩
    refine kk _ 0 (Or.inl rfl) (by rw [eS]; exact Int32.add_zero _) (I.step hk em D2 (fun q hq nq => hs_ne nq) (hs_ne (Ne.symm am.2.2.1)) B ?_ (fun q j hq nj => ?_) (fun q j hq => ?_) (by rw [eS]; rfl) (by rw [eS]; rfl) ?_ ⟨fun j hj => (hwa j hj).sel, hwb.sel⟩ (fun q7 => ?_) (Or.inl (by rw [eS]; rfl)))
    · rw [hs_self, af 11 k, af 13 k, af 14 k, af 15 k, af 16 k]
      simp
    · rw [af q j]
      simp [nj]
    · rw [af q j]
      simp [show q ≠ 13 by omega]
    · rw [af 14 k, af 15 k]
      simp
      exact hb
    · obtain ⟨g1, n1, R1, e61, eg⟩ := I.2.2.2.2.2.1 (fun q => q7 (by rw [eS]; exact q))
      exact ⟨g1, n1, ⟨R1.1, by rw [hs_ne (Ne.symm am.1)]; exact R1.2.1, by rw [hs_ne (Ne.symm am.2.1)]; exact R1.2.2.1, R1.2.2.2⟩, by rw [eS]; exact e61, fun j hj => by rw [af 5 j]; simp; exact eg j hj⟩
/-- the frame in the row b is the model's, a long one -/
def FL (fb : Nat → Int32) (nb : Nat) (S : MS) : Prop := ∃ L, 3 ≤ L ∧ L ≤ 252 ∧ nb = L + 6 ∧ S.a 3 1 = nI L ∧ ∀ j, j < nb → fb j = S.a 3 j
theorem FL.at {fb : Nat → Int32} {nb : Nat} (F : FL fb nb S) {j : Nat} (hj : j < nb) : rAt fb nb (nI j) = S.a 3 j := by
  obtain ⟨L, l1, l2, l3, l4, l5⟩ := F
  rw [rAt_in hj (by omega), l5 j hj]
theorem FL.ds {fb : Nat → Int32} {nb : Nat} (F : FL fb nb S) {d : Nat} (hd : d < 200) : nI nb - 6 - 3 = nI d ↔ S.a 3 1 = nI (d + 3) := by
  obtain ⟨L, l1, l2, l3, l4, l5⟩ := F
  rw [l4, l3, show nI (L + 6) - 6 = nI (L + 6 - 6) from nI_sub' (v := L + 6) (b := 6) (by omega), show nI (L + 6 - 6) - 3 = nI (L + 6 - 6 - 3) from nI_sub' (v := L + 6 - 6) (b := 3) (by omega)]
  constructor
  · intro e
    have := congrArg Int32.toNatClampNeg e
    rw [nI_clamp (by omega), nI_clamp (by omega)] at this
    exact congrArg nI (by omega)
  · intro e
    have := congrArg Int32.toNatClampNeg e
    rw [nI_clamp (by omega), nI_clamp (by omega)] at this
    exact congrArg nI (by omega)
theorem FL.A {fb : Nat → Int32} {nb : Nat} (F : FL fb nb S) : lgA fb nb ↔ S.a 3 6 = 80 ∧ S.a 3 1 = 3 := by
  have h6 := F.at (j := 6) (by obtain ⟨L, l1, l2, l3, -⟩ := F; omega)
  unfold lgA
  rw [show (6 : Int32) = nI 6 from rfl] at *
  rw [h6]
  have := F.ds (d := 0) (by omega)
  exact and_congr Iff.rfl this
theorem FL.B {fb : Nat → Int32} {nb : Nat} (F : FL fb nb S) : lgB fb nb ↔ S.a 3 6 = 81 ∧ S.a 3 1 = 6 ∧ S.a 3 7 = 1 ∧ S.a 3 8 = 122 ∧ S.a 3 9 ≤ 250 := by
  have h6 := F.at (j := 6) (by obtain ⟨L, l1, l2, l3, -⟩ := F; omega)
  have hd := F.ds (d := 3) (by omega)
  have big : S.a 3 1 = 6 → rAt fb nb 7 = S.a 3 7 ∧ rAt fb nb 8 = S.a 3 8 ∧ rAt fb nb 9 = S.a 3 9 := fun e => by
    have hL : 12 ≤ nb := by
      obtain ⟨L, l1, l2, l3, l4, -⟩ := F
      have := congrArg Int32.toNatClampNeg (l4.symm.trans (e.trans (show (6 : Int32) = nI 6 from rfl)))
      rw [nI_clamp (by omega), nI_clamp (by omega)] at this
      omega
    exact ⟨F.at (j := 7) (by omega), F.at (j := 8) (by omega), F.at (j := 9) (by omega)⟩
  unfold lgB
  constructor
  · intro g
    have e := hd.mp g.2.1
    obtain ⟨b1, b2, b3⟩ := big e
    exact ⟨h6.symm.trans g.1, e, b1.symm.trans g.2.2.1, b2.symm.trans g.2.2.2.1, by rw [← b3]; exact g.2.2.2.2⟩
  · intro g
    obtain ⟨b1, b2, b3⟩ := big g.2.1
    exact ⟨h6.trans g.1, hd.mpr g.2.1, b1.trans g.2.2.1, b2.trans g.2.2.2.1, by rw [b3]; exact g.2.2.2.2⟩
theorem long_i {q : Nat} (h6 : q ≠ 6) (h7 : q ≠ 7) : (f_long S k).i q = S.i q := by
  unfold f_long
  split
  · rw [f_ack_i _ h6 h7]; rfl
  · split
    · rw [f_ack_i _ h6 h7]; rfl
    · rfl
/-- meter.hearsLong -/
theorem k_longX (hX : Wx w c) (C : Cx z RX0 cc gw) (Y : Cty z c) (E : Cs z w lvl (40 * lvl)) (hl : 4 < lvl) (hk : k < 12) (em : f k = some m) (I : IB c u ma an aa h0 W α f κ ω N S h) {b ba nb : Nat} {fb : Nat → Int32} (Rb : RW c h0 b ba fb nb) (o1 : W b) (o2 : W ba) (F : FL fb nb S) (d : decode cc pc = .ok (.invokevirtual 85, 3)) (hcat : (st.map fun v => v.category).sum ≤ 8)
    (kk : ∀ (g : PH) (x : Int32), (x = 0 ∨ x = 1) → S.i 7 + x = (f_long S k).i 7 → IB c u ma an aa h0 W α f κ ω (N + 1) (f_long S k) g → X z kc ks (EQ g) (pc + 3) L (.int x :: st)) : X z kc ks (EQ h) pc L (.ref an :: .ref b :: .ref m :: st) := by
  have hW := hX.1
  have hm := I.km em
  obtain ⟨pg, sz, B, M, hb, k1, k2, k3⟩ := I.me hk em
  obtain ⟨n, g0, n90, Dn, R, hbt⟩ := I.1.row
  have am := I.ap (q := m) (by rw [M.1]; omega)
  have hwa := I.2.2.2.1.1
  have hwb := I.2.2.2.1.2
  obtain ⟨ap1, ap2, ap3⟩ := I.1.apu
  have R1 := Dn.out Rb o1 o2
  by_cases gA : lgA fb nb
  · have eS : f_long S k = f_ack (f_forget S k) := if_pos (F.A.mp gA)
    have af : ∀ q j, q ≠ 5 → (f_long S k).a q j = if q = 14 ∧ j = k then -1 else if q = 15 ∧ j = k then -1 else S.a q j := fun q j hq => by rw [eS, f_ack_a _ hq, f_forget, MS.sa_a, MS.sa_a]
    refine u_callV (st := st) C Y hW E (t_long_a hW B R (Ne.symm am.1) (Ne.symm am.2.1) R1 gA) md_X2_hearsLong wi_X2_hearsLong ws_X2_hearsLong wm_X0_85 d rfl (by omega) (by decide) B rfl rfl hcat ?_
    have D2 := (Dn.putM hm (S.a 11 k) (S.a 13 k) (-1) (-1) (S.a 16 k) k1 k2 k3).single g0
    refine kk _ 1 (Or.inr rfl) (by rw [eS]; rfl) (I.step hk em D2 (fun q hq nq => ?_) ?_ B ?_ (fun q j hq nj => ?_) (fun q j hq => ?_) (long_i (by decide) (by decide)) (long_i (by decide) (by decide)) ?_ ⟨fun j hj => (hwa j hj).lng, hwb.lng⟩ (fun _ => by rw [eS]; exact AN.ack R.1 _) (Or.inr (by rw [eS]; rfl)))
    · have aq := I.ap hq
      rw [rw_ne aq.1 aq.2.1, hs_ne nq]
    · rw [rw_ne ap2 ap3, hs_ne (Ne.symm am.2.2.1)]
    · rw [rw_ne am.1 am.2.1, hs_self, af 11 k (by decide), af 13 k (by decide), af 14 k (by decide), af 15 k (by decide), af 16 k (by decide)]
      simp
    · rw [af q j (by omega)]
      simp [nj]
    · rw [af q j (by omega)]
      simp [show q ≠ 14 by omega, show q ≠ 15 by omega]
    · rw [af 14 k (by decide), af 15 k (by decide)]
      simp
      exact Or.inl ⟨rfl, rfl⟩
  · have nA : ¬ (S.a 3 6 = 80 ∧ S.a 3 1 = 3) := fun q => gA (F.A.mpr q)
    by_cases gB : lgB fb nb
    · have gB2 := F.B.mp gB
      have eS : f_long S k = f_ack (S.sa 11 k (S.a 3 9)) := by unfold f_long; rw [if_neg nA, if_pos gB2]
      have e9 : rAt fb nb 9 = S.a 3 9 := F.at (j := 9) (by
        obtain ⟨L, l1, l2, l3, l4, -⟩ := F
        have := congrArg Int32.toNatClampNeg (l4.symm.trans (gB2.2.1.trans (show (6 : Int32) = nI 6 from rfl)))
        rw [nI_clamp (by omega), nI_clamp (by omega)] at this
        omega)
      have af : ∀ q j, q ≠ 5 → (f_long S k).a q j = if q = 11 ∧ j = k then S.a 3 9 else S.a q j := fun q j hq => by rw [eS, f_ack_a _ hq, MS.sa_a]
      have tl := t_long_b hW B R (Ne.symm am.1) (Ne.symm am.2.1) R1 gB
      rw [e9] at tl
      refine u_callV (st := st) C Y hW E tl md_X2_hearsLong wi_X2_hearsLong ws_X2_hearsLong wm_X0_85 d rfl (by omega) (by decide) B rfl rfl hcat ?_
      have D2 := (Dn.putM hm (S.a 3 9) (S.a 13 k) (S.a 14 k) (S.a 15 k) (S.a 16 k) k1 k2 k3).single g0
      refine kk _ 1 (Or.inr rfl) (by rw [eS]; rfl) (I.step hk em D2 (fun q hq nq => ?_) ?_ B ?_ (fun q j hq nj => ?_) (fun q j hq => ?_) (long_i (by decide) (by decide)) (long_i (by decide) (by decide)) ?_ ⟨fun j hj => (hwa j hj).lng, hwb.lng⟩ (fun _ => by rw [eS]; exact AN.ack R.1 _) (Or.inr (by rw [eS]; rfl)))
      · have aq := I.ap hq
        rw [rw_ne aq.1 aq.2.1, hs_ne nq]
      · rw [rw_ne ap2 ap3, hs_ne (Ne.symm am.2.2.1)]
      · rw [rw_ne am.1 am.2.1, hs_self, af 11 k (by decide), af 13 k (by decide), af 14 k (by decide), af 15 k (by decide), af 16 k (by decide)]
        simp
      · rw [af q j (by omega)]
        simp [nj]
      · rw [af q j (by omega)]
        simp [show q ≠ 11 by omega]
      · rw [af 14 k (by decide), af 15 k (by decide)]
        simp
        exact hb
    · have nB : ¬ (S.a 3 6 = 81 ∧ S.a 3 1 = 6 ∧ S.a 3 7 = 1 ∧ S.a 3 8 = 122 ∧ S.a 3 9 ≤ 250) := fun q => gB (F.B.mpr q)
      have eS : f_long S k = S := by unfold f_long; rw [if_neg nA, if_neg nB]
      refine u_callV (st := st) C Y hW E (t_long_c hW B R1 gA gB an) md_X2_hearsLong wi_X2_hearsLong ws_X2_hearsLong wm_X0_85 d rfl (by omega) (by decide) B rfl rfl hcat ?_
      exact kk _ 0 (Or.inl rfl) (by rw [eS]; exact Int32.add_zero _) (by rw [eS]; exact I.more)
end Rows
end Bus
end
