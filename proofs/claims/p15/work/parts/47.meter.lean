/-! The invariant is kept: meter. -/
theorem byt_in {x : Int32} {c : Nat} (hc : c < 256) (h : (0 : Int32) ≤ x ∧ x ≤ nI c) : byt x := by
  obtain ⟨j, -, h2, h3⟩ := in_nI (lo := 0) (hi := c) (by omega) h (by omega)
  exact ⟨j, by omega, h3⟩
theorem byte_byt {i mk v d ad : Int32} (h : g_num ad mk v d) (b : Nat) : byt (f_byte b i mk v d) := by
  obtain ⟨h1, h2, h3, h4, h5, h6⟩ := h
  unfold f_byte
  split
  · exact byt_and _
  · split
    · exact byt_and _
    · split
      · exact byt_in (c := 254) (by decide) h4
      · split
        · exact byt_in (c := 254) (by decide) h5
        · exact byt_in (c := 254) (by decide) h6
theorem mb_12 (S : MS) (k : Nat) (i mk v d : Int32) (p : Nat) : ∀ n, (f_mb S k i mk v d n).a 12 p = if 8 * k ≤ p ∧ p < 8 * k + n then f_byte (p - 8 * k) i mk v d else S.a 12 p
  | 0 => by rw [if_neg (by omega)]; rfl
  | n + 1 => by
    rw [f_mb, MS.sa_a, mb_12 S k i mk v d p n]
    by_cases e : p = 8 * k + n
    · rw [if_pos ⟨rfl, e⟩, if_pos (by omega), show p - 8 * k = n by omega]
    · rw [if_neg (fun q => e q.2)]
      by_cases g : 8 * k ≤ p ∧ p < 8 * k + n
      · rw [if_pos g, if_pos (by omega)]
      · rw [if_neg g, if_neg (by omega)]
theorem mb_a (S : MS) (k : Nat) (i mk v d : Int32) {q p : Nat} (h : q ≠ 12) : ∀ n, (f_mb S k i mk v d n).a q p = S.a q p
  | 0 => rfl
  | n + 1 => by rw [f_mb, sa_ne h, mb_a S k i mk v d h n]
theorem mb_i (S : MS) (k : Nat) (i mk v d : Int32) (q : Nat) : ∀ n, (f_mb S k i mk v d n).i q = S.i q
  | 0 => rfl
  | n + 1 => by rw [f_mb, MS.sa_i, mb_i S k i mk v d q n]
theorem mp_a (S : MS) (k : Nat) {q p : Nat} (h : q ≠ 17) : ∀ n, (f_mp S k n).a q p = S.a q p
  | 0 => rfl
  | n + 1 => by rw [f_mp, sa_ne h, mp_a S k h n]
theorem mp_17 (S : MS) (k p : Nat) : ∀ n, (f_mp S k n).a 17 p = if 3 * k ≤ p ∧ p < 3 * k + n then 0 else S.a 17 p
  | 0 => by rw [if_neg (by omega)]; rfl
  | n + 1 => by
    rw [f_mp, MS.sa_a, mp_17 S k p n]
    by_cases e : p = 3 * k + n
    · rw [if_pos ⟨rfl, e⟩, if_pos (by omega)]
    · rw [if_neg (fun q => e q.2)]
      by_cases g : 3 * k ≤ p ∧ p < 3 * k + n
      · rw [if_pos g, if_pos (by omega)]
      · rw [if_neg g, if_neg (by omega)]
theorem mp_i (S : MS) (k q : Nat) : ∀ n, (f_mp S k n).i q = S.i q
  | 0 => rfl
  | n + 1 => by rw [f_mp, MS.sa_i, mp_i S k q n]
theorem WFb.mb {S : MS} {k : Nat} {i mk v d : Int32} (h : WFb S) (hb : ∀ b, byt (f_byte b i mk v d)) : ∀ n, WFb (f_mb S k i mk v d n)
  | 0 => h
  | n + 1 => (h.mb hb n).sa (fun _ => hb n)
theorem WFb.mp {S : MS} {k : Nat} (h : WFb S) : ∀ n, WFb (f_mp S k n)
  | 0 => h
  | n + 1 => (h.mp n).sa (fun q => absurd q (by decide))
theorem meter_i {S : MS} {k : Nat} {ad i mk v d : Int32} {q : Nat} (h : q ≠ 0) : (f_meter S k ad i mk v d).i q = S.i q := by
  unfold f_meter
  rw [mp_i, MS.sa_i, MS.sa_i, MS.sa_i, MS.sa_i, mb_i, MS.sa_i, MS.sa_i, MS.si_i, if_neg h]
theorem meter_10 (S : MS) (k : Nat) (ad i mk v d : Int32) (j : Nat) : (f_meter S k ad i mk v d).a 10 j = if j = k then 1 else S.a 10 j := by
  unfold f_meter
  rw [mp_a _ _ (by decide), sa_ne (by decide), sa_ne (by decide), sa_ne (by decide), sa_ne (by decide), mb_a _ _ _ _ _ _ (by decide), sa_ne (by decide), MS.sa_a]
  by_cases e : j = k
  · rw [if_pos ⟨rfl, e⟩, if_pos e]
  · rw [if_neg (fun q => e q.2), if_neg e]; rfl
theorem meter_12 (S : MS) (k : Nat) (ad i mk v d : Int32) (p : Nat) : (f_meter S k ad i mk v d).a 12 p = if 8 * k ≤ p ∧ p < 8 * k + 8 then f_byte (p - 8 * k) i mk v d else S.a 12 p := by
  unfold f_meter
  rw [mp_a _ _ (by decide), sa_ne (by decide), sa_ne (by decide), sa_ne (by decide), sa_ne (by decide), mb_12, sa_ne (by decide), sa_ne (by decide)]
  rfl
theorem meter_14 (S : MS) (k : Nat) (ad i mk v d : Int32) (j : Nat) : (f_meter S k ad i mk v d).a 14 j = if j = k then -1 else S.a 14 j := by
  unfold f_meter
  rw [mp_a _ _ (by decide), sa_ne (by decide), MS.sa_a]
  by_cases e : j = k
  · rw [if_pos ⟨rfl, e⟩, if_pos e]
  · rw [if_neg (fun q => e q.2), if_neg e, sa_ne (by decide), sa_ne (by decide), mb_a _ _ _ _ _ _ (by decide), sa_ne (by decide), sa_ne (by decide)]; rfl
theorem meter_15 (S : MS) (k : Nat) (ad i mk v d : Int32) (j : Nat) : (f_meter S k ad i mk v d).a 15 j = if j = k then -1 else S.a 15 j := by
  unfold f_meter
  rw [mp_a _ _ (by decide), sa_ne (by decide), sa_ne (by decide), MS.sa_a]
  by_cases e : j = k
  · rw [if_pos ⟨rfl, e⟩, if_pos e]
  · rw [if_neg (fun q => e q.2), if_neg e, sa_ne (by decide), mb_a _ _ _ _ _ _ (by decide), sa_ne (by decide), sa_ne (by decide)]; rfl
theorem meter_17 (S : MS) (k : Nat) (ad i mk v d : Int32) (p : Nat) : (f_meter S k ad i mk v d).a 17 p = if 3 * k ≤ p ∧ p < 3 * k + 3 then 0 else S.a 17 p := by
  unfold f_meter
  rw [mp_17, sa_ne (by decide), sa_ne (by decide), sa_ne (by decide), sa_ne (by decide), mb_a _ _ _ _ _ _ (by decide), sa_ne (by decide), sa_ne (by decide)]
  rfl
/-- parts tell the bytes -/
theorem prt_inj {f g : Nat → Nat} (h : ∀ n, n < 12 → prt f n = prt g n) : ∀ b, b < 8 → f b = g b := by
  intro b hb
  by_cases h4 : b < 4
  · have h1 := h (2 * (3 - b)) (by omega)
    have h2 := h (2 * (3 - b) + 1) (by omega)
    rw [prt_hi _ h4, prt_hi _ h4] at h1
    rw [prt_lo _ h4, prt_lo _ h4] at h2
    omega
  · have h1 := h (b + 4) (by omega)
    rw [prt_by _ (by omega), prt_by _ (by omega)] at h1
    exact h1
theorem MG.meter {S : MS} {k : Nat} {ad i mk v d : Int32} (h : MG S) (hk : k < 12) (hg : g_good S (nI k) ad i mk v d) : MG (f_meter S k ad i mk v d) := by
  have hB := byte_byt (i := i) hg.1.1
  have wb : WFb (f_meter S k ad i mk v d) := by
    unfold f_meter
    refine WFb.mp ?_ 3
    refine ((((WFb.mb ?_ hB 8).sa (fun q => absurd q (by decide))).sa (fun q => absurd q (by decide))).sa (fun q => absurd q (by decide))).sa (fun _ => ⟨0, by decide, rfl⟩)
    exact (WFb.sa (S := S.si 0 0) h.mi.1 (fun q => absurd q (by decide))).sa (fun _ => byt_in (c := 250) (by decide) hg.1.1.1)
  have wa : WFa (f_meter S k ad i mk v d) := by
    intro j hj
    obtain ⟨h1, h2⟩ := h.mi.2.1 j hj
    by_cases e : j = k
    · refine ⟨fun g => ?_, fun p hp => ?_⟩
      · rw [meter_15, if_pos e] at g
        exact absurd g (by decide)
      · rw [meter_17, if_pos (by omega)]
        exact ⟨0, by decide, rfl⟩
    · refine ⟨fun g => ?_, fun p hp => ?_⟩
      · rw [meter_15, if_neg e] at g
        rw [meter_14, if_neg e]
        exact h1 g
      · rw [meter_17, if_neg (by omega)]
        exact h2 p hp
  obtain ⟨n, n1, n2⟩ := h.buf
  obtain ⟨f, f1, f2⟩ := h.fnd
  refine ⟨⟨wb, wa, h.mi.2.2.same (meter_i (by decide)) (meter_i (by decide))⟩, ?_, ⟨n, (meter_i (by decide)).trans n1, n2⟩, ⟨f, (meter_i (by decide)).trans f1, f2⟩⟩
  have old : ∀ j, j ≠ k → ∀ b, b < 8 → (f_meter S k ad i mk v d).a 12 (8 * j + b) = S.a 12 (8 * j + b) := fun j hj b hb => by rw [meter_12, if_neg (by omega)]
  have key : ∀ j, j < 12 → j ≠ k → ¬ S.a 10 j = 0 → ¬ (∀ b, b < 8 → S.a 12 (8 * j + b) = f_byte b i mk v d) := by
    intro j hj e aj g
    have fr := hg.2
    unfold g_free at fr
    rw [List.all_eq_true] at fr
    have := fr j (List.mem_range.mpr hj)
    rw [decide_eq_true_eq] at this
    refine this ⟨⟨aj, fun q => e ((nI_eq (by omega) (by omega)).mp q)⟩, ?_⟩
    unfold g_sb
    rw [List.all_eq_true]
    intro b hb
    rw [decide_eq_true_eq]
    exact g b (List.mem_range.mp hb)
  have same : ∀ x y, (∀ n, n < 12 → prt (sby (f_meter S k ad i mk v d) x) n = prt (sby (f_meter S k ad i mk v d) y) n) → ∀ b, b < 8 → (f_meter S k ad i mk v d).a 12 (8 * x + b) = (f_meter S k ad i mk v d).a 12 (8 * y + b) := by
    intro x y e b hb
    rw [(wb.s x b).2, (wb.s y b).2, prt_inj e b hb]
  have new : ∀ b, b < 8 → (f_meter S k ad i mk v d).a 12 (8 * k + b) = f_byte b i mk v d := fun b hb => by rw [meter_12, if_pos (by omega), show 8 * k + b - 8 * k = b by omega]
  intro x y hx hy ax ay e
  rw [meter_10] at ax ay
  by_cases ex : x = k
  · by_cases ey : y = k
    · rw [ex, ey]
    · rw [if_neg ey] at ay
      refine absurd (fun b hb => ?_) (key y hy ey ay)
      rw [← old y ey b hb, ← same x y e b hb, ex]
      exact new b hb
  · rw [if_neg ex] at ax
    by_cases ey : y = k
    · refine absurd (fun b hb => ?_) (key x hx ex ax)
      rw [← old x ex b hb, same x y e b hb, ey]
      exact new b hb
    · rw [if_neg ey] at ay
      refine h.ds x y hx hy ax ay (fun n hn => ?_)
      have s1 : ∀ b, b < 8 → sby S x b = sby S y b := fun b hb => by
        unfold sby
        rw [← old x ex b hb, ← old y ey b hb, same x y e b hb]
      unfold prt
      split
      · rw [s1 _ (by omega)]
      · rw [s1 _ (by omega)]
