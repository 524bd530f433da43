/-! Parts of masks and of addresses, as numbers. -/
theorem pb_hi : ∀ x, x < 256 → ∀ d, d < 16 → (nI x &&& 15) ||| (nI d <<< ((4 : Int32) &&& 31)) = nI (16 * d + x % 16) := by decide +kernel
theorem pb_lo : ∀ x, x < 256 → ∀ d, d < 16 → (nI x &&& 240) ||| nI d = nI (16 * (x / 16) + d) := by decide +kernel
theorem pb_15 {x : Nat} (h : x < 256) : nI x &&& 15 = nI (x % 16) := pk_andN (by omega) 4 rfl
theorem pb_s4 {x : Nat} (h : x < 256) : nI x >>> ((4 : Int32) &&& 31) = nI (x / 16) := pk_shrN (by omega) _ 4 rfl
/-- part n of eight bytes -/
def prt (f : Nat → Nat) (n : Nat) : Nat := if n < 8 then (if n % 2 = 0 then f (3 - n / 2) / 16 else f (3 - n / 2) % 16) else f (n - 4)
def wld (n : Nat) : Nat := if n < 8 then 15 else 255
theorem prt_hi (f : Nat → Nat) {b : Nat} (h : b < 4) : prt f (2 * (3 - b)) = f b / 16 := by unfold prt; rw [if_pos (show 2 * (3 - b) < 8 by omega), if_pos (show 2 * (3 - b) % 2 = 0 by omega), show 3 - 2 * (3 - b) / 2 = b by omega]
theorem prt_lo (f : Nat → Nat) {b : Nat} (h : b < 4) : prt f (2 * (3 - b) + 1) = f b % 16 := by unfold prt; rw [if_pos (show 2 * (3 - b) + 1 < 8 by omega), if_neg (show ¬ (2 * (3 - b) + 1) % 2 = 0 by omega), show 3 - (2 * (3 - b) + 1) / 2 = b by omega]
theorem prt_by (f : Nat → Nat) {b : Nat} (h : 4 ≤ b) : prt f (b + 4) = f b := by unfold prt; rw [if_neg (show ¬ b + 4 < 8 by omega), show b + 4 - 4 = b by omega]
theorem wld_lo {n : Nat} (h : n < 8) : wld n = 15 := if_pos h
theorem wld_by {n : Nat} (h : ¬ n < 8) : wld n = 255 := if_neg h
def mby (S : MS) (b : Nat) : Nat := (S.a 19 b).toNatClampNeg
def sby (S : MS) (k b : Nat) : Nat := (S.a 12 (8 * k + b)).toNatClampNeg
theorem WFb.m {S : MS} (h : WFb S) (b : Nat) : mby S b < 256 ∧ S.a 19 b = nI (mby S b) := by
  obtain ⟨x, h1, h2⟩ := h 19 b rfl
  unfold mby
  rw [h2, nI_clamp (by omega)]
  exact ⟨h1, rfl⟩
theorem WFb.s {S : MS} (h : WFb S) (k b : Nat) : sby S k b < 256 ∧ S.a 12 (8 * k + b) = nI (sby S k b) := by
  obtain ⟨x, h1, h2⟩ := h 12 (8 * k + b) rfl
  unfold sby
  rw [h2, nI_clamp (by omega)]
  exact ⟨h1, rfl⟩
/-- a meter fits when each part is wild, or the same -/
theorem fitM_iff {S : MS} (h : WFb S) (k : Nat) : fitM S k = true ↔ ∀ n, n < 12 → prt (mby S) n = wld n ∨ prt (mby S) n = prt (sby S k) n := by
  have hb : ∀ b, b < 8 → ((if b < 4 then (decide (S.a 19 b &&& 15 = 15) || decide (S.a 19 b &&& 15 = S.a 12 (8 * k + b) &&& 15)) && (decide (S.a 19 b >>> ((4 : Int32) &&& 31) = 15) || decide (S.a 19 b >>> ((4 : Int32) &&& 31) = S.a 12 (8 * k + b) >>> ((4 : Int32) &&& 31))) else (decide (S.a 19 b = 255) || decide (S.a 19 b = S.a 12 (8 * k + b)))) = true ↔
      (if b < 4 then ((mby S b % 16 = 15 ∨ mby S b % 16 = sby S k b % 16) ∧ (mby S b / 16 = 15 ∨ mby S b / 16 = sby S k b / 16)) else (mby S b = 255 ∨ mby S b = sby S k b))) := by
    intro b _
    obtain ⟨m1, m2⟩ := h.m b
    obtain ⟨s1, s2⟩ := h.s k b
    rw [m2, s2]
    split
    · rw [pb_15 m1, pb_15 s1, pb_s4 m1, pb_s4 s1]
      simp only [Bool.and_eq_true, Bool.or_eq_true, decide_eq_true_eq]
      rw [show (15 : Int32) = nI 15 from rfl, nI_eq (by omega) (by omega), nI_eq (by omega) (by omega), nI_eq (by omega) (by omega), nI_eq (by omega) (by omega)]
    · simp only [Bool.or_eq_true, decide_eq_true_eq]
      rw [show (255 : Int32) = nI 255 from rfl, nI_eq (by omega) (by omega), nI_eq (by omega) (by omega)]
  unfold fitM
  rw [List.all_eq_true]
  constructor
  · intro g n hn
    unfold prt wld
    by_cases h8 : n < 8
    · have := (hb (3 - n / 2) (by omega)).mp (g _ (List.mem_range.mpr (by omega)))
      rw [if_pos (by omega)] at this
      rw [if_pos h8, if_pos h8, if_pos h8]
      split
      · exact this.2
      · exact this.1
    · have := (hb (n - 4) (by omega)).mp (g _ (List.mem_range.mpr (by omega)))
      rw [if_neg (by omega)] at this
      rw [if_neg h8, if_neg h8, if_neg h8]
      exact this
  · intro g b hbm
    have hb8 := List.mem_range.mp hbm
    refine (hb b hb8).mpr ?_
    by_cases h4 : b < 4
    · rw [if_pos h4]
      have g1 := g (2 * (3 - b) + 1) (by omega)
      have g2 := g (2 * (3 - b)) (by omega)
      rw [prt_lo _ h4, prt_lo _ h4, wld_lo (by omega)] at g1
      rw [prt_hi _ h4, prt_hi _ h4, wld_lo (by omega)] at g2
      exact ⟨g1, g2⟩
    · rw [if_neg h4]
      have g1 := g (b + 4) (by omega)
      rw [prt_by _ (by omega), prt_by _ (by omega), wld_by (by omega)] at g1
      exact g1
theorem WFb.part {S : MS} {n : Nat} (h : WFb S) (v : Nat) (hv : v < if n < 8 then 16 else 256) : WFb (f_part S n (nI v)) := by
  have n0 : ¬ nI v < 0 := nI_pos (by split at hv <;> omega)
  unfold f_part f_d
  rw [if_neg n0]
  split
  · rename_i g
    rw [if_neg (by omega)] at hv
    exact h.sa (fun _ => byt_n hv)
  · rename_i g
    rw [if_pos (by omega)] at hv
    obtain ⟨m1, m2⟩ := h.m (3 - n / 2)
    refine h.sa (fun _ => ?_)
    rw [m2]
    split
    · rw [pb_hi _ m1 _ hv]; exact byt_n (by omega)
    · rw [pb_lo _ m1 _ hv]; exact byt_n (by omega)
/-- setting a part -/
theorem part_prt {S : MS} {n : Nat} (h : WFb S) (hn : n < 12) (v : Nat) (hv : v < if n < 8 then 16 else 256) : ∀ q, q < 12 → prt (mby (f_part S n (nI v))) q = if q = n then v else prt (mby S) q := by
  intro q hq
  have n0 : ¬ nI v < 0 := nI_pos (by split at hv <;> omega)
  have hm : ∀ b, mby (f_part S n (nI v)) b = if 7 < n then (if b = n - 4 then v else mby S b) else (if b = 3 - n / 2 then (if n % 2 = 0 then 16 * v + mby S b % 16 else 16 * (mby S b / 16) + v) else mby S b) := by
    intro b
    unfold mby f_part f_d
    rw [if_neg n0, if_neg n0]
    by_cases g : 7 < n
    · rw [if_pos g, if_pos g, MS.sa_a]
      rw [if_neg (by omega)] at hv
      by_cases e : b = n - 4
      · rw [if_pos ⟨rfl, e⟩, if_pos e, nI_clamp (by omega)]
      · rw [if_neg (fun q => e q.2), if_neg e]
    · rw [if_neg g, if_neg g, MS.sa_a]
      rw [if_pos (by omega)] at hv
      by_cases e : b = 3 - n / 2
      · subst e
        obtain ⟨m1, m2⟩ := h.m (3 - n / 2)
        rw [if_pos ⟨rfl, rfl⟩, if_pos rfl]
        unfold mby at m1
        split
        · rw [m2, pb_hi _ (h.m _).1 _ hv]; unfold mby; rw [nI_clamp (by omega), nI_clamp (by omega)]
        · rw [m2, pb_lo _ (h.m _).1 _ hv]; unfold mby; rw [nI_clamp (by omega), nI_clamp (by omega)]
      · rw [if_neg (fun q => e q.2), if_neg e]
  have m255 := fun b => (h.m b).1
  unfold prt
  by_cases h8 : q < 8
  · rw [if_pos h8, if_pos h8, hm]
    by_cases g : 7 < n
    · rw [if_pos g, if_neg (show ¬ 3 - q / 2 = n - 4 by omega), if_neg (show ¬ q = n by omega)]
    · rw [if_neg g]
      rw [if_pos (by omega)] at hv
      by_cases e : 3 - q / 2 = 3 - n / 2
      · rw [if_pos e]
        have := m255 (3 - q / 2)
        by_cases p1 : n % 2 = 0 <;> by_cases p2 : q % 2 = 0
        · rw [if_pos p1, if_pos p2, if_pos (by omega)]; omega
        · rw [if_pos p1, if_neg p2, if_neg (by omega), if_neg p2]; omega
        · rw [if_neg p1, if_pos p2, if_neg (by omega), if_pos p2]; omega
        · rw [if_neg p1, if_neg p2, if_pos (by omega)]; omega
      · rw [if_neg e, if_neg (show ¬ q = n by omega)]
  · rw [if_neg h8, if_neg h8, hm]
    by_cases g : 7 < n
    · rw [if_pos g]
      by_cases e : q = n
      · rw [if_pos (by omega), if_pos e]
      · rw [if_neg (by omega), if_neg e]
    · rw [if_neg g, if_neg (by omega), if_neg (by omega)]
theorem part_wild (S : MS) (n : Nat) : f_part S n (-1) = f_part S n (nI (wld n)) := by
  unfold f_part f_d wld
  by_cases g : 7 < n
  · rw [if_pos g, if_pos g, if_pos (show (-1 : Int32) < 0 by decide), if_neg (show ¬ n < 8 by omega)]
    rfl
  · rw [if_neg g, if_neg g, if_pos (show (-1 : Int32) < 0 by decide), if_pos (show n < 8 by omega)]
    rfl
