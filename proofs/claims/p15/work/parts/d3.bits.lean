/-! Bits: masks and addresses. -/
theorem bl_xor (x y : Int64) (i : Nat) : bl (x ^^^ y) i = (bl x i ^^ bl y i) := by unfold bl; rw [Int64.toBitVec_xor, BitVec.getLsbD_xor]
theorem bl_ext {x y : Int64} (h : ∀ i, i < 64 → bl x i = bl y i) : x = y := Int64.toBitVec_inj.mp (BitVec.eq_of_getLsbD_eq (fun i hi => h i hi))
theorem bl_0 (i : Nat) : bl 0 i = false := BitVec.getLsbD_zero
theorem bl_big {x : Int64} {i : Nat} (h : 64 ≤ i) : bl x i = false := BitVec.getLsbD_of_ge _ _ h
theorem bl_m1 : ∀ i, i < 64 → bl (-1) i = true := by decide +kernel
theorem sh_l : ∀ n, n < 64 → (((nI n).toInt64 &&& 63).toBitVec.smod 64).toNat = n := by decide +kernel
theorem sh_u : ∀ n, n < 64 → (((nI n).toInt64.toUInt64 &&& Int64.toUInt64 63).toBitVec % 64).toNat = n := by decide +kernel
theorem bl_ushr (x : Int64) (n : Nat) (hn : n < 64) (i : Nat) : bl ((x.toUInt64 >>> ((nI n).toInt64.toUInt64 &&& Int64.toUInt64 63)).toInt64) i = bl x (n + i) := by
  unfold bl
  show (x.toUInt64 >>> ((nI n).toInt64.toUInt64 &&& Int64.toUInt64 63)).toBitVec.getLsbD i = _
  rw [UInt64.toBitVec_shiftRight, BitVec.ushiftRight_eq', BitVec.getLsbD_ushiftRight, sh_u n hn]
  rfl
theorem bl_l2i (x : Int64) (i : Nat) : bt x.toInt32 i = (decide (i < 32) && bl x i) := by
  unfold bt bl
  rw [show x.toInt32.toBitVec = x.toBitVec.signExtend 32 from rfl, BitVec.getLsbD_signExtend]
  by_cases h : i < 32
  · simp [h, show i < 64 by omega]
  · simp [h]
theorem bl_15 (i : Nat) : bl 15 i = decide (i < 4) := by
  rcases Nat.lt_or_ge i 64 with h | h
  · exact (by decide +kernel : ∀ i, i < 64 → bl 15 i = decide (i < 4)) i h
  · rw [bl_big h, decide_eq_false (by omega)]
theorem bl_255 (i : Nat) : bl 255 i = decide (i < 8) := by
  rcases Nat.lt_or_ge i 64 with h | h
  · exact (by decide +kernel : ∀ i, i < 64 → bl 255 i = decide (i < 8)) i h
  · rw [bl_big h, decide_eq_false (by omega)]
theorem by8_bit (a : Int64) {k : Nat} (hk : k < 8) {t : Nat} : bt (by8 a k &&& 255) t = (decide (t < 8) && bl a (8 * k + t)) := by
  unfold by8
  rw [b_and, b_255, bl_l2i, show (8 : Int32) * nI k = nI (8 * k) from pk_mul 8 k, bl_ushr _ _ (by omega)]
  by_cases h : t < 8
  · simp [h, show t < 32 by omega]
  · simp [h]
/-- an address against its bytes -/
def AB (a : Int64) (f : Nat → Int32) : Prop := ∀ b, b < 8 → by8 a b &&& 255 = f b
theorem AB.bit {a : Int64} {f : Nat → Int32} (h : AB a f) {t : Nat} (ht : t < 64) : bl a t = bt (f (t / 8)) (t % 8) := by
  rw [← h (t / 8) (by omega), by8_bit a (by omega), decide_eq_true (by omega), show 8 * (t / 8) + t % 8 = t by omega]
  rfl
theorem AB.of {a : Int64} {f : Nat → Int32} (hf : ∀ b, b < 8 → f b &&& 255 = f b) (h : ∀ t, t < 64 → bl a t = bt (f (t / 8)) (t % 8)) : AB a f := fun b hb => b_ext (fun t ht => by
  rw [by8_bit a hb]
  by_cases q : t < 8
  · rw [decide_eq_true q, h (8 * b + t) (by omega), show (8 * b + t) / 8 = b by omega, show (8 * b + t) % 8 = t by omega]
    rfl
  · rw [← hf b hb, b_and, b_255, decide_eq_false q]
    simp)
/-- all bits of the group (nibble or byte) of t are 1 -/
def wildT (a : Int64) (t : Nat) : Bool := if t < 32 then (List.range 4).all (fun i => bl a (4 * (t / 4) + i)) else (List.range 8).all (fun i => bl a (8 * (t / 8) + i))
theorem nib_iff (a : Int64) (j : Nat) (hj : j < 8) : (a.toUInt64 >>> ((nI (4 * j)).toInt64.toUInt64 &&& Int64.toUInt64 63)).toInt64 &&& 15 = 15 ↔ (List.range 4).all (fun i => bl a (4 * j + i)) = true := by
  rw [List.all_eq_true]
  constructor
  · intro h i hi
    have hi2 := List.mem_range.mp hi
    have := congrArg (fun x => bl x i) h
    simp only [bl_and, bl_15, bl_ushr _ _ (show 4 * j < 64 by omega), decide_eq_true hi2, Bool.and_true] at this
    exact this
  · intro h
    refine bl_ext (fun i hi => ?_)
    rw [bl_and, bl_15, bl_ushr _ _ (by omega)]
    by_cases q : i < 4
    · rw [h i (List.mem_range.mpr q)]; simp
    · simp [q]
theorem byt_iff (a : Int64) (j : Nat) (hj : 4 ≤ j ∧ j < 8) : (a.toUInt64 >>> ((nI (8 * j)).toInt64.toUInt64 &&& Int64.toUInt64 63)).toInt64 &&& 255 = 255 ↔ (List.range 8).all (fun i => bl a (8 * j + i)) = true := by
  rw [List.all_eq_true]
  constructor
  · intro h i hi
    have hi2 := List.mem_range.mp hi
    have := congrArg (fun x => bl x i) h
    simp only [bl_and, bl_255, bl_ushr _ _ (show 8 * j < 64 by omega), decide_eq_true hi2, Bool.and_true] at this
    exact this
  · intro h
    refine bl_ext (fun i hi => ?_)
    rw [bl_and, bl_255, bl_ushr _ _ (by omega)]
    by_cases q : i < 8
    · rw [h i (List.mem_range.mpr q)]; simp
    · simp [q]

section Cared
variable {a : Int64}
/-- behind j nibbles -/
def CN (a : Int64) (j : Nat) (v : Int64) : Prop := ∀ t, t < 64 → bl v t = (decide (t < 4 * j) && !wildT a t)
def CB (a : Int64) (j : Nat) (v : Int64) : Prop := ∀ t, t < 64 → bl v t = (decide (t < 32 + 8 * j) && !wildT a t)
theorem wild_lo {t : Nat} (h : t < 32) : wildT a t = (List.range 4).all (fun i => bl a (4 * (t / 4) + i)) := if_pos h
theorem wild_hi {t : Nat} (h : ¬ t < 32) : wildT a t = (List.range 8).all (fun i => bl a (8 * (t / 8) + i)) := if_neg h
theorem CN.zero : CN a 0 0 := fun t _ => by rw [bl_0]; simp
theorem CN.no {j : Nat} {v : Int64} (h : CN a j v) (hj : j < 8) (g : (a.toUInt64 >>> ((nI (4 * j)).toInt64.toUInt64 &&& Int64.toUInt64 63)).toInt64 &&& 15 = 15) : CN a (j + 1) v := fun t ht => by
  rw [h t ht]
  by_cases q : t < 4 * j
  · rw [decide_eq_true q, decide_eq_true (show t < 4 * (j + 1) by omega)]
  · rw [decide_eq_false q]
    by_cases q2 : t < 4 * (j + 1)
    · rw [decide_eq_true q2, wild_lo (by omega), show t / 4 = j by omega, (nib_iff a j hj).mp g]
      rfl
    · rw [decide_eq_false q2]
theorem CN.yes {j : Nat} {v : Int64} (h : CN a j v) (hj : j < 8) (g : ¬ (a.toUInt64 >>> ((nI (4 * j)).toInt64.toUInt64 &&& Int64.toUInt64 63)).toInt64 &&& 15 = 15) : CN a (j + 1) (v ||| (15 <<< ((nI (4 * j)).toInt64 &&& 63))) := fun t ht => by
  rw [bl_or, h t ht, bl_shl _ _ (4 * j) (sh_l _ (by omega)) ht, bl_15]
  by_cases q : t < 4 * j
  · rw [decide_eq_true q, decide_eq_true (show t < 4 * (j + 1) by omega), decide_eq_false (show ¬ 4 * j ≤ t by omega)]
    simp
  · rw [decide_eq_false q, decide_eq_true (show 4 * j ≤ t by omega)]
    by_cases q2 : t < 4 * (j + 1)
    · have e : (List.range 4).all (fun i => bl a (4 * j + i)) = false := Bool.eq_false_iff.mpr (fun e => g ((nib_iff a j hj).mpr e))
      rw [decide_eq_true q2, decide_eq_true (show t - 4 * j < 4 by omega), wild_lo (by omega), show t / 4 = j by omega, e]
      rfl
    · rw [decide_eq_false q2, decide_eq_false (show ¬ t - 4 * j < 4 by omega)]
      rfl
theorem CB.zero {v : Int64} (h : CN a 8 v) : CB a 0 v := h
theorem CB.no {j : Nat} {v : Int64} (h : CB a j v) (hj : j < 4) (g : (a.toUInt64 >>> ((nI (32 + 8 * j)).toInt64.toUInt64 &&& Int64.toUInt64 63)).toInt64 &&& 255 = 255) : CB a (j + 1) v := fun t ht => by
  rw [show 32 + 8 * j = 8 * (4 + j) by omega] at g
  rw [h t ht]
  by_cases q : t < 32 + 8 * j
  · rw [decide_eq_true q, decide_eq_true (show t < 32 + 8 * (j + 1) by omega)]
  · rw [decide_eq_false q]
    by_cases q2 : t < 32 + 8 * (j + 1)
    · rw [decide_eq_true q2, wild_hi (by omega), show t / 8 = 4 + j by omega, (byt_iff a (4 + j) (by omega)).mp g]
      rfl
    · rw [decide_eq_false q2]
theorem CB.yes {j : Nat} {v : Int64} (h : CB a j v) (hj : j < 4) (g : ¬ (a.toUInt64 >>> ((nI (32 + 8 * j)).toInt64.toUInt64 &&& Int64.toUInt64 63)).toInt64 &&& 255 = 255) : CB a (j + 1) (v ||| (255 <<< ((nI (32 + 8 * j)).toInt64 &&& 63))) := fun t ht => by
  rw [show 32 + 8 * j = 8 * (4 + j) by omega] at g
  rw [bl_or, h t ht, bl_shl _ _ (32 + 8 * j) (sh_l _ (by omega)) ht, bl_255]
  by_cases q : t < 32 + 8 * j
  · rw [decide_eq_true q, decide_eq_true (show t < 32 + 8 * (j + 1) by omega), decide_eq_false (show ¬ 32 + 8 * j ≤ t by omega)]
    simp
  · rw [decide_eq_false q, decide_eq_true (show 32 + 8 * j ≤ t by omega)]
    by_cases q2 : t < 32 + 8 * (j + 1)
    · have e : (List.range 8).all (fun i => bl a (8 * (4 + j) + i)) = false := Bool.eq_false_iff.mpr (fun e => g ((byt_iff a (4 + j) (by omega)).mpr e))
      rw [decide_eq_true q2, decide_eq_true (show t - (32 + 8 * j) < 8 by omega), wild_hi (by omega), show t / 8 = 4 + j by omega, e]
      rfl
    · rw [decide_eq_false q2, decide_eq_false (show ¬ t - (32 + 8 * j) < 8 by omega)]
      rfl
/-- all bits of the mask's groups but wildcards are the address's -/
theorem cared_iff {x cd : Int64} (h : CB a 4 cd) : (a ^^^ x) &&& cd = 0 ↔ ∀ t, t < 64 → wildT a t = true ∨ bl a t = bl x t := by
  constructor
  · intro e t ht
    have q := congrArg (fun y => bl y t) e
    simp only [bl_and, bl_xor, bl_0, h t ht, decide_eq_true (show t < 32 + 8 * 4 by omega), Bool.true_and] at q
    cases e1 : wildT a t with
    | true => exact Or.inl rfl
    | false =>
      rw [e1] at q
      refine Or.inr ?_
      cases e2 : bl a t <;> cases e3 : bl x t <;> rw [e2, e3] at q <;> first | rfl | exact absurd q (by decide)
  · intro e
    refine bl_ext (fun t ht => ?_)
    rw [bl_and, bl_xor, bl_0, h t ht, decide_eq_true (show t < 32 + 8 * 4 by omega), Bool.true_and]
    rcases e t ht with e | e
    · rw [e]; simp
    · rw [e]; simp
end Cared
section Fit
variable {x y : Int32}
theorem lo_15 : x &&& 15 = 15 ↔ ∀ i, i < 4 → bt x i = true := by
  constructor
  · intro h i hi
    have := congrArg (fun z => bt z i) h
    simp only [b_and, b_15, decide_eq_true hi, Bool.and_true] at this
    exact this
  · intro h
    refine b_ext (fun i _ => ?_)
    rw [b_and, b_15]
    by_cases q : i < 4
    · rw [h i q]; simp
    · simp [q]
theorem lo_eq : x &&& 15 = y &&& 15 ↔ ∀ i, i < 4 → bt x i = bt y i := by
  constructor
  · intro h i hi
    have := congrArg (fun z => bt z i) h
    simp only [b_and, b_15, decide_eq_true hi, Bool.and_true] at this
    exact this
  · intro h
    refine b_ext (fun i _ => ?_)
    rw [b_and, b_and, b_15]
    by_cases q : i < 4
    · rw [h i q]
    · simp [q]
theorem hib (hx : x &&& 255 = x) {i : Nat} (hi : 8 ≤ i) : bt x i = false := by
  rw [← hx, b_and, b_255, decide_eq_false (by omega), Bool.and_false]
theorem s4_bit (hx : x &&& 255 = x) {i : Nat} (hi : i < 32) : bt (x >>> ((4 : Int32) &&& 31)) i = bt x (4 + i) := by
  rw [show ((4 : Int32) &&& 31) = nI 4 &&& 31 from rfl, b_sshr 4 (by omega) x hi]
  by_cases q : 4 + i < 32
  · rw [if_pos q]
  · rw [if_neg q, hib hx (i := 31) (by omega), hib hx (by omega)]
theorem hi_15 (hx : x &&& 255 = x) : x >>> ((4 : Int32) &&& 31) = 15 ↔ ∀ i, i < 4 → bt x (4 + i) = true := by
  constructor
  · intro h i hi
    rw [← s4_bit hx (by omega), h, b_15, decide_eq_true hi]
  · intro h
    refine b_ext (fun i hi => ?_)
    rw [s4_bit hx hi, b_15]
    by_cases q : i < 4
    · rw [h i q, decide_eq_true q]
    · rw [hib hx (by omega), decide_eq_false q]
theorem hi_eq (hx : x &&& 255 = x) (hy : y &&& 255 = y) : x >>> ((4 : Int32) &&& 31) = y >>> ((4 : Int32) &&& 31) ↔ ∀ i, i < 4 → bt x (4 + i) = bt y (4 + i) := by
  constructor
  · intro h i hi
    rw [← s4_bit hx (by omega), h, s4_bit hy (by omega)]
  · intro h
    refine b_ext (fun i hi => ?_)
    rw [s4_bit hx hi, s4_bit hy hi]
    by_cases q : i < 4
    · exact h i q
    · rw [hib hx (by omega), hib hy (by omega)]
theorem by_255 (hx : x &&& 255 = x) : x = 255 ↔ ∀ i, i < 8 → bt x i = true := by
  constructor
  · intro h i hi
    rw [h, b_255, decide_eq_true hi]
  · intro h
    refine b_ext (fun i hi => ?_)
    rw [b_255]
    by_cases q : i < 8
    · rw [h i q, decide_eq_true q]
    · rw [hib hx (by omega), decide_eq_false q]
theorem by_eq (hx : x &&& 255 = x) (hy : y &&& 255 = y) : x = y ↔ ∀ i, i < 8 → bt x i = bt y i := by
  constructor
  · intro h i hi
    rw [h]
  · intro h
    refine b_ext (fun i hi => ?_)
    by_cases q : i < 8
    · exact h i q
    · rw [hib hx (by omega), hib hy (by omega)]
end Fit
theorem and_255_255 (x : Int32) : (x &&& 255) &&& 255 = x &&& 255 := b_ext (fun i _ => by rw [b_and, b_and, b_255]; cases decide (i < 8) <;> simp)
theorem AB.byte {a : Int64} {f : Nat → Int32} (h : AB a f) {b : Nat} (hb : b < 8) : f b &&& 255 = f b := by rw [← h b hb, and_255_255]
def fitB (X Y : Nat → Int32) (b : Nat) : Prop := if b < 4 then (X b &&& 15 = 15 ∨ X b &&& 15 = Y b &&& 15) ∧ (X b >>> ((4 : Int32) &&& 31) = 15 ∨ X b >>> ((4 : Int32) &&& 31) = Y b >>> ((4 : Int32) &&& 31)) else X b = 255 ∨ X b = Y b
theorem fits_iff {mk ad : Int64} {X Y : Nat → Int32} (h1 : AB mk X) (h2 : AB ad Y) : (∀ b, b < 8 → fitB X Y b) ↔ ∀ t, t < 64 → wildT mk t = true ∨ bl mk t = bl ad t := by
  constructor
  · intro h t ht
    have hb := h (t / 8) (by omega)
    unfold fitB at hb
    rw [h1.bit ht, h2.bit ht]
    by_cases q : t / 8 < 4
    · rw [if_pos q] at hb
      rw [wild_lo (show t < 32 by omega), List.all_eq_true]
      rcases (show t / 4 % 2 = 0 ∨ t / 4 % 2 = 1 by omega) with e | e
      · rcases hb.1 with g | g
        · refine Or.inl (fun i hi => ?_)
          have hi4 := List.mem_range.mp hi
          rw [h1.bit (by omega), show (4 * (t / 4) + i) / 8 = t / 8 by omega, show (4 * (t / 4) + i) % 8 = i by omega]
          exact lo_15.mp g i hi4
        · exact Or.inr (lo_eq.mp g _ (by omega))
      · rcases hb.2 with g | g
        · refine Or.inl (fun i hi => ?_)
          have hi4 := List.mem_range.mp hi
          rw [h1.bit (by omega), show (4 * (t / 4) + i) / 8 = t / 8 by omega, show (4 * (t / 4) + i) % 8 = 4 + i by omega]
          exact (hi_15 (h1.byte (by omega))).mp g i hi4
        · refine Or.inr ?_
          have := (hi_eq (h1.byte (by omega)) (h2.byte (by omega))).mp g (t % 4) (by omega)
          rw [show 4 + t % 4 = t % 8 by omega] at this
          exact this
    · rw [if_neg q] at hb
      rw [wild_hi (show ¬ t < 32 by omega), List.all_eq_true]
      rcases hb with g | g
      · refine Or.inl (fun i hi => ?_)
        have hi8 := List.mem_range.mp hi
        rw [h1.bit (by omega), show (8 * (t / 8) + i) / 8 = t / 8 by omega, show (8 * (t / 8) + i) % 8 = i by omega]
        exact (by_255 (h1.byte (by omega))).mp g i hi8
      · exact Or.inr (by rw [g])
  · intro h b hb
    unfold fitB
    by_cases q : b < 4
    · rw [if_pos q]
      have grp : ∀ n, n < 2 → (∀ i, i < 4 → bt (X b) (4 * n + i) = true) ∨ (∀ i, i < 4 → bt (X b) (4 * n + i) = bt (Y b) (4 * n + i)) := fun n hn => by
        by_cases w : wildT mk (8 * b + 4 * n) = true
        · refine Or.inl (fun i hi => ?_)
          rw [wild_lo (by omega), List.all_eq_true] at w
          have := w i (List.mem_range.mpr hi)
          rw [h1.bit (by omega), show (4 * ((8 * b + 4 * n) / 4) + i) / 8 = b by omega, show (4 * ((8 * b + 4 * n) / 4) + i) % 8 = 4 * n + i by omega] at this
          exact this
        · refine Or.inr (fun i hi => ?_)
          rcases h (8 * b + 4 * n + i) (by omega) with g | g
          · rw [wild_lo (by omega), show (8 * b + 4 * n + i) / 4 = (8 * b + 4 * n) / 4 by omega, ← wild_lo (show 8 * b + 4 * n < 32 by omega)] at g
            exact absurd g w
          · rw [h1.bit (by omega), h2.bit (by omega), show (8 * b + 4 * n + i) / 8 = b by omega, show (8 * b + 4 * n + i) % 8 = 4 * n + i by omega] at g
            exact g
      refine ⟨?_, ?_⟩
      · rcases grp 0 (by omega) with g | g
        · exact Or.inl (lo_15.mpr (fun i hi => by have := g i hi; rw [show 4 * 0 + i = i by omega] at this; exact this))
        · exact Or.inr (lo_eq.mpr (fun i hi => by have := g i hi; rw [show 4 * 0 + i = i by omega] at this; exact this))
      · rcases grp 1 (by omega) with g | g
        · exact Or.inl ((hi_15 (h1.byte hb)).mpr g)
        · exact Or.inr ((hi_eq (h1.byte hb) (h2.byte hb)).mpr g)
    · rw [if_neg q]
      by_cases w : wildT mk (8 * b) = true
      · refine Or.inl ((by_255 (h1.byte hb)).mpr (fun i hi => ?_))
        rw [wild_hi (by omega), List.all_eq_true] at w
        have := w i (List.mem_range.mpr hi)
        rw [h1.bit (by omega), show (8 * (8 * b / 8) + i) / 8 = b by omega, show (8 * (8 * b / 8) + i) % 8 = i by omega] at this
        exact this
      · refine Or.inr ((by_eq (h1.byte hb) (h2.byte hb)).mpr (fun i hi => ?_))
        rcases h (8 * b + i) (by omega) with g | g
        · rw [wild_hi (by omega), show (8 * b + i) / 8 = 8 * b / 8 by omega, ← wild_hi (show ¬ 8 * b < 32 by omega)] at g
          exact absurd g w
        · rw [h1.bit (by omega), h2.bit (by omega), show (8 * b + i) / 8 = b by omega, show (8 * b + i) % 8 = i by omega] at g
          exact g
theorem lcmp_eq {x y : Int64} : lg_cmp x y = 0 ↔ x = y := ⟨fun h => Decidable.byContradiction fun n => (lcmp_ne.mpr n) h, fun h => Decidable.byContradiction fun n => (lcmp_ne.mp n) h⟩
section Bus
variable {w : Wd} {c : Nat → ClassId} {h : PH}
theorem b_caredX (hW : Wc w c) (k : Int64) : T w gw yX0_caredBits cX0_caredBits 5 (some .long) 0 0 0 0 [.long k] (EQ h) (fun r g => (∃ v, r = some (.long v) ∧ CB k 4 v) ∧ g = h) := by
  refine T.intro (by decide +kernel) (Nat.le_of_ble_eq_true rfl) (fun z C E hn e2 e3 => ?_)
  rw [e2, e3] at *
  have L2 : ∀ (t j : Nat) (v : Int64), j + t = 4 → CB k j v → X z 0 0 (EQ h) 46 [some (.long k), none, some (.long v), none, some (.int (nI (32 + 8 * j)))] [] := by
    intro t
    induction t with
    | zero =>
      intro j v hj hv
      obtain rfl : j = 4 := by omega
      refine x_iload C dX0_caredBits_46 rfl ?_
      refine x_bipush (v := 64) C dX0_caredBits_48 (by decide) ?_
      refine x_icmp_ge (tgt := 83) C dX0_caredBits_50 (by decide) (fun c50 => ?_) (fun c50 => absurd c50 (not_not_intro (Int32.le_refl _)))
      refine x_lload_n C dX0_caredBits_83 rfl ?_
      refine x_lret C E dX0_caredBits_84 (fun h g => ⟨?_, g⟩)
      exact ⟨_, rfl, hv⟩
    | succ t ih =>
      intro j v hj hv
      refine x_iload C dX0_caredBits_46 rfl ?_
      refine x_bipush (v := 64) C dX0_caredBits_48 (by decide) ?_
      refine x_icmp_ge (tgt := 83) C dX0_caredBits_50 (by decide) (fun c50 => absurd c50 (Int32.not_le.mpr (nI_lt (show 32 + 8 * j < 64 by omega) (by decide)))) (fun c50 => ?_)
      refine x_lload_n C dX0_caredBits_53 rfl ?_
      refine x_iload C dX0_caredBits_54 rfl ?_
      refine x_lushr C dX0_caredBits_56 ?_
      refine x_ldc2 C wk_X0_91 dX0_caredBits_57 ?_
      refine x_land C dX0_caredBits_60 ?_
      refine x_ldc2 C wk_X0_91 dX0_caredBits_61 ?_
      refine x_lcmp C dX0_caredBits_64 ?_
      refine x_if_eq (tgt := 77) C dX0_caredBits_65 (by decide) (fun c65 => ?_) (fun c65 => ?_)
      · skip
        refine o_iincE (v := nI (32 + 8 * (j + 1))) (L' := [some _, none, some _, none, some _]) C dX0_caredBits_77 rfl (by rw [show (Int32.ofInt 8) = nI 8 from rfl, nI_add]; exact congrArg nI (by omega)) (by rw [hn]; decide) rfl ?_
        refine x_goto (tgt := 46) C dX0_caredBits_80 (by decide) ?_
        exact ih (j + 1) _ (by omega) (hv.no (by omega) (lcmp_eq.mp c65))
      · skip
        refine x_lload_n C dX0_caredBits_68 rfl ?_
        refine x_ldc2 C wk_X0_91 dX0_caredBits_69 ?_
        refine x_iload C dX0_caredBits_72 rfl ?_
        refine x_lshl C dX0_caredBits_74 ?_
        refine x_lor C dX0_caredBits_75 ?_
        refine o_lstore_nE (L' := [some _, none, some _, none, some _]) C dX0_caredBits_76 (by rw [hn]; decide) rfl ?_
        refine o_iincE (v := nI (32 + 8 * (j + 1))) (L' := [some _, none, some _, none, some _]) C dX0_caredBits_77 rfl (by rw [show (Int32.ofInt 8) = nI 8 from rfl, nI_add]; exact congrArg nI (by omega)) (by rw [hn]; decide) rfl ?_
        refine x_goto (tgt := 46) C dX0_caredBits_80 (by decide) ?_
        exact ih (j + 1) _ (by omega) (hv.yes (by omega) (fun q => c65 (lcmp_eq.mpr q)))
  have L1 : ∀ (t j : Nat) (v : Int64), j + t = 8 → CN k j v → X z 0 0 (EQ h) 5 [some (.long k), none, some (.long v), none, some (.int (nI (4 * j)))] [] := by
    intro t
    induction t with
    | zero =>
      intro j v hj hv
      obtain rfl : j = 8 := by omega
      refine x_iload C dX0_caredBits_5 rfl ?_
      refine x_bipush (v := 32) C dX0_caredBits_7 (by decide) ?_
      refine x_icmp_ge (tgt := 42) C dX0_caredBits_9 (by decide) (fun c9 => ?_) (fun c9 => absurd c9 (not_not_intro (Int32.le_refl _)))
      refine x_bipush (v := 32) C dX0_caredBits_42 (by decide) ?_
      refine o_istoreE (L' := [some _, none, some _, none, some _]) C dX0_caredBits_44 (by rw [hn]; decide) rfl ?_
      exact L2 4 0 _ rfl (CB.zero hv)
    | succ t ih =>
      intro j v hj hv
      refine x_iload C dX0_caredBits_5 rfl ?_
      refine x_bipush (v := 32) C dX0_caredBits_7 (by decide) ?_
      refine x_icmp_ge (tgt := 42) C dX0_caredBits_9 (by decide) (fun c9 => absurd c9 (Int32.not_le.mpr (nI_lt (show 4 * j < 32 by omega) (by decide)))) (fun c9 => ?_)
      refine x_lload_n C dX0_caredBits_12 rfl ?_
      refine x_iload C dX0_caredBits_13 rfl ?_
      refine x_lushr C dX0_caredBits_15 ?_
      refine x_ldc2 C wk_X0_89 dX0_caredBits_16 ?_
      refine x_land C dX0_caredBits_19 ?_
      refine x_ldc2 C wk_X0_89 dX0_caredBits_20 ?_
      refine x_lcmp C dX0_caredBits_23 ?_
      refine x_if_eq (tgt := 36) C dX0_caredBits_24 (by decide) (fun c24 => ?_) (fun c24 => ?_)
      · skip
        refine o_iincE (v := nI (4 * (j + 1))) (L' := [some _, none, some _, none, some _]) C dX0_caredBits_36 rfl (by rw [show (Int32.ofInt 4) = nI 4 from rfl, nI_add]; exact congrArg nI (by omega)) (by rw [hn]; decide) rfl ?_
        refine x_goto (tgt := 5) C dX0_caredBits_39 (by decide) ?_
        exact ih (j + 1) _ (by omega) (hv.no (by omega) (lcmp_eq.mp c24))
      · skip
        refine x_lload_n C dX0_caredBits_27 rfl ?_
        refine x_ldc2 C wk_X0_89 dX0_caredBits_28 ?_
        refine x_iload C dX0_caredBits_31 rfl ?_
        refine x_lshl C dX0_caredBits_33 ?_
        refine x_lor C dX0_caredBits_34 ?_
        refine o_lstore_nE (L' := [some _, none, some _, none, some _]) C dX0_caredBits_35 (by rw [hn]; decide) rfl ?_
        refine o_iincE (v := nI (4 * (j + 1))) (L' := [some _, none, some _, none, some _]) C dX0_caredBits_36 rfl (by rw [show (Int32.ofInt 4) = nI 4 from rfl, nI_add]; exact congrArg nI (by omega)) (by rw [hn]; decide) rfl ?_
        refine x_goto (tgt := 5) C dX0_caredBits_39 (by decide) ?_
        exact ih (j + 1) _ (by omega) (hv.yes (by omega) (fun q => c24 (lcmp_eq.mpr q)))
  refine x_lconst (v := 0) C dX0_caredBits_0 (by decide) ?_
  refine o_lstore_nE (L' := [some _, none, some _, none, none]) C dX0_caredBits_1 (by rw [hn]; decide) rfl ?_
  refine x_iconst (v := 0) C dX0_caredBits_2 (by decide) ?_
  refine o_istoreE (L' := [some _, none, some _, none, some _]) C dX0_caredBits_3 (by rw [hn]; decide) rfl ?_
  exact L1 8 0 _ rfl CN.zero
end Bus
