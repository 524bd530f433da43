/-! ===== Int32 by its bits: bt x i ===== -/
def bt (x : Int32) (i : Nat) : Bool := x.toBitVec.getLsbD i
theorem b_ext {x y : Int32} (h : ∀ i, i < 32 → bt x i = bt y i) : x = y := Int32.toBitVec_inj.mp (BitVec.eq_of_getLsbD_eq (fun i hi => h i hi))
theorem b_or (x y : Int32) (i : Nat) : bt (x ||| y) i = (bt x i || bt y i) := by unfold bt; rw [Int32.toBitVec_or, BitVec.getLsbD_or]
theorem b_and (x y : Int32) (i : Nat) : bt (x &&& y) i = (bt x i && bt y i) := by unfold bt; rw [Int32.toBitVec_and, BitVec.getLsbD_and]
theorem b_xor (x y : Int32) (i : Nat) : bt (x ^^^ y) i = (bt x i ^^ bt y i) := by unfold bt; rw [Int32.toBitVec_xor, BitVec.getLsbD_xor]
theorem b_big {x : Int32} {i : Nat} (h : 32 ≤ i) : bt x i = false := BitVec.getLsbD_of_ge _ _ h
theorem b_255 (i : Nat) : bt 255 i = decide (i < 8) := by
  rcases Nat.lt_or_ge i 32 with h | h
  · exact (by decide +kernel : ∀ i, i < 32 → bt 255 i = decide (i < 8)) i h
  · rw [b_big h, decide_eq_false (by omega)]
theorem b_65535 (i : Nat) : bt 65535 i = decide (i < 16) := by
  rcases Nat.lt_or_ge i 32 with h | h
  · exact (by decide +kernel : ∀ i, i < 32 → bt 65535 i = decide (i < 16)) i h
  · rw [b_big h, decide_eq_false (by omega)]
theorem b_m1 : ∀ i, i < 32 → bt (-1) i = true := by decide +kernel
theorem b_0 (i : Nat) : bt 0 i = false := BitVec.getLsbD_zero
theorem s_l : ∀ n, n < 32 → ((nI n &&& 31).toBitVec.smod 32).toNat = n := by decide +kernel
theorem s_u : ∀ n, n < 32 → (((nI n).toUInt32 &&& Int32.toUInt32 31).toBitVec % 32).toNat = n := by decide +kernel
theorem b_shl (n : Nat) (hn : n < 32) (x : Int32) {i : Nat} (hi : i < 32) : bt (x <<< (nI n &&& 31)) i = (decide (n ≤ i) && bt x (i - n)) := by
  unfold bt
  rw [Int32.toBitVec_shiftLeft]
  show (x.toBitVec <<< ((nI n &&& 31).toBitVec.smod 32).toNat).getLsbD i = _
  rw [s_l n hn, BitVec.getLsbD_shiftLeft]
  rcases Nat.lt_or_ge i n with h | h
  · simp [h, Nat.not_le.mpr h]
  · simp [hi, h, Nat.not_lt.mpr h]
theorem b_ushr (n : Nat) (hn : n < 32) (x : Int32) (i : Nat) : bt ((x.toUInt32 >>> ((nI n).toUInt32 &&& Int32.toUInt32 31)).toInt32) i = bt x (n + i) := by
  show (x.toUInt32 >>> ((nI n).toUInt32 &&& Int32.toUInt32 31)).toBitVec.getLsbD i = x.toUInt32.toBitVec.getLsbD (n + i)
  rw [UInt32.toBitVec_shiftRight]
  show (x.toUInt32.toBitVec >>> (((nI n).toUInt32 &&& Int32.toUInt32 31).toBitVec % 32).toNat).getLsbD i = _
  rw [s_u n hn, BitVec.getLsbD_ushiftRight]
theorem b_sshr (n : Nat) (hn : n < 32) (x : Int32) {i : Nat} (hi : i < 32) : bt (x >>> (nI n &&& 31)) i = if n + i < 32 then bt x (n + i) else bt x 31 := by
  unfold bt
  rw [Int32.toBitVec_shiftRight]
  show (x.toBitVec.sshiftRight ((nI n &&& 31).toBitVec.smod 32).toNat).getLsbD i = _
  rw [s_l n hn, BitVec.getLsbD_sshiftRight, BitVec.msb_eq_getLsbD_last]
  simp [hi]
theorem b_15 (i : Nat) : bt 15 i = decide (i < 4) := by
  rcases Nat.lt_or_ge i 32 with h | h
  · exact (by decide +kernel : ∀ i, i < 32 → bt 15 i = decide (i < 4)) i h
  · rw [b_big h, decide_eq_false (by omega)]
theorem dig_eq (x : Int32) (t : Nat) (ht : t < 8) : (x.toUInt32 >>> ((nI (4 * t)).toUInt32 &&& Int32.toUInt32 31)).toInt32 &&& 15 = (x >>> (((4 : Int32) * nI t) &&& 31)) &&& 15 := by
  rw [show (4 : Int32) * nI t = nI (4 * t) from pk_mul 4 t]
  refine b_ext (fun i hi => ?_)
  rw [b_and, b_and, b_ushr _ (by omega), b_sshr _ (by omega) _ hi, b_15]
  by_cases h : i < 4
  · rw [if_pos (by omega)]
  · rw [decide_eq_false h, Bool.and_false, Bool.and_false]
theorem neg_bit {x : Int32} (h : x < 0) : bt x 31 = true := by
  have h1 : x.toInt < 0 := by
    rw [Int32.lt_iff_toInt_lt] at h
    exact h
  have h2 : x.toBitVec.msb = true := by
    rw [BitVec.msb_eq_toInt]
    exact decide_eq_true h1
  rw [BitVec.msb_eq_getLsbD_last] at h2
  exact h2
theorem bit_neg {x : Int32} (h : bt x 31 = true) : x < 0 := by
  have h2 : x.toBitVec.msb = true := by
    rw [BitVec.msb_eq_getLsbD_last]
    exact h
  rw [BitVec.msb_eq_toInt] at h2
  rw [Int32.lt_iff_toInt_lt]
  exact of_decide_eq_true h2
theorem mk_rng {x : Int32} (h0 : (0 : Int32) ≤ x >>> ((8 : Int32) &&& 31)) (h1 : x >>> ((8 : Int32) &&& 31) ≤ 254) : (0 : Int32) ≤ x ∧ x ≤ 65535 := by
  have g0 : ¬ x < 0 := fun g => by
    have e : bt (x >>> ((8 : Int32) &&& 31)) 31 = true := by
      have := b_sshr 8 (by omega) x (i := 31) (by omega)
      rw [if_neg (by omega), neg_bit g] at this
      exact this
    exact absurd (bit_neg e) (Int32.not_lt.mpr h0)
  obtain ⟨m, hm, rfl⟩ := nI_of g0
  refine ⟨Int32.not_lt.mp g0, ?_⟩
  rw [pk_shrN hm _ 8 rfl] at h1
  have h2 : m / 2 ^ 8 ≤ 254 := Nat.le_of_not_lt (fun g => absurd (nI_lt g (by omega)) (Int32.not_lt.mpr h1))
  exact nI_le (show m ≤ 65535 by omega) (by decide)
theorem outR {x : Int32} (g : ¬ ((0 : Int32) ≤ x ∧ x ≤ 5)) : x.toInt < 0 ∨ 5 < x.toInt := by
  rw [Int32.le_iff_toInt_le, Int32.le_iff_toInt_le] at g
  have e0 : (0 : Int32).toInt = 0 := by decide
  have e5 : (5 : Int32).toInt = 5 := by decide
  rw [e0, e5] at g
  omega
theorem lt10 {x : Int32} (h : x ≤ 9) : x < 10 := by
  rw [Int32.le_iff_toInt_le, show (9 : Int32).toInt = 9 from by decide] at h
  rw [Int32.lt_iff_toInt_lt, show (10 : Int32).toInt = 10 from by decide]
  omega
theorem le9 {x : Int32} (h : x < 10) : x ≤ 9 := by
  rw [Int32.lt_iff_toInt_lt, show (10 : Int32).toInt = 10 from by decide] at h
  rw [Int32.le_iff_toInt_le, show (9 : Int32).toInt = 9 from by decide]
  omega
