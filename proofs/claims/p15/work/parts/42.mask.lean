/-! What a mask on the bus does. -/
theorem mhd_a (S : MS) (j : Nat) : (f_mhd S).a 3 j = if j = 6 then 82 else if j = 5 then 253 else if j = 4 then 83 else if j = 3 then 104 else if j = 2 then 11 else if j = 1 then 11 else if j = 0 then 104 else S.a 3 j := by
  unfold f_mhd
  simp only [MS.sa_a, true_and]
theorem mcp_3 (S : MS) (n j : Nat) : (f_mcp S n).a 3 j = if 7 ≤ j ∧ j < 7 + n then S.a 19 (j - 7) else S.a 3 j := by
  induction n with
  | zero => rw [if_neg (by omega)]; rfl
  | succ n ih =>
    rw [f_mcp, MS.sa_a, ih]
    by_cases h : j = 7 + n
    · subst h
      rw [if_pos ⟨rfl, rfl⟩, if_pos (by omega), show 7 + n - 7 = n by omega]
    · rw [if_neg (fun e => h e.2)]
      by_cases g : 7 ≤ j ∧ j < 7 + n
      · rw [if_pos g, if_pos (by omega)]
      · rw [if_neg g, if_neg (by omega)]
theorem putM0_a (S : MS) (j : Nat) (hj : j < 15) : (f_putM0 S).a 3 j = if 7 ≤ j then S.a 19 (j - 7) else (f_mhd S).a 3 j := by
  unfold f_putM0
  rw [MS.si_a, MS.sa_a, if_neg (by omega), MS.sa_a, if_neg (by omega), mcp_3]
  by_cases g : 7 ≤ j
  · rw [if_pos (by omega), if_pos g]
    unfold f_mhd
    rw [sa_ne (by decide), sa_ne (by decide), sa_ne (by decide), sa_ne (by decide), sa_ne (by decide), sa_ne (by decide), sa_ne (by decide)]
  · rw [if_neg (by omega), if_neg g]
theorem putM0_15 (S : MS) : (f_putM0 S).a 3 15 = f_msum (f_mhd S) 8 &&& 255 := by
  unfold f_putM0
  rw [MS.si_a, MS.sa_a, if_neg (by omega), MS.sa_a, if_pos ⟨rfl, rfl⟩]
theorem putM0_16 (S : MS) : (f_putM0 S).a 3 16 = 22 := by
  unfold f_putM0
  rw [MS.si_a, MS.sa_a, if_pos ⟨rfl, rfl⟩]
theorem putM_isS (S : MS) : ¬ f_isS (f_putM0 S) := fun h => absurd h.1 (by show ¬ (nI 17 = 5); decide)
theorem putM_isL (S : MS) : f_isL (f_putM0 S) 17 := by
  have c : ∀ j, j < 7 → (f_putM0 S).a 3 j = (f_mhd S).a 3 j := fun j hj => by rw [putM0_a S j (by omega), if_neg (by omega)]
  have d : ∀ j, j < 8 → (f_putM0 S).a 3 (7 + j) = (f_mhd S).a 19 j := fun j hj => by
    rw [putM0_a S (7 + j) (by omega), if_pos (by omega), show 7 + j - 7 = j by omega]
    unfold f_mhd
    rw [sa_ne (by decide), sa_ne (by decide), sa_ne (by decide), sa_ne (by decide), sa_ne (by decide), sa_ne (by decide), sa_ne (by decide)]
  have hs : sumF ((f_putM0 S).a 3) 4 15 = f_msum (f_mhd S) 8 := by
    have h7 : sumF ((f_putM0 S).a 3) 4 7 = 418 := by
      rw [sumF_s _ (by decide), sumF_s _ (by decide), sumF_s _ (by decide), sumF_0, c 4 (by decide), c 5 (by decide), c 6 (by decide), mhd_a, mhd_a, mhd_a]
      rfl
    have : ∀ n, n ≤ 8 → sumF ((f_putM0 S).a 3) 4 (7 + n) = f_msum (f_mhd S) n := by
      intro n
      induction n with
      | zero => intro _; exact h7
      | succ n ih => intro hn; rw [show 7 + (n + 1) = (7 + n) + 1 by omega, sumF_s _ (by omega), ih (by omega), d n (by omega)]; rfl
    exact this 8 (Nat.le_refl 8)
  refine ⟨by decide, ?_, ?_, ?_, ?_, ?_, ?_, ?_, ?_⟩
  · rw [c 0 (by decide), mhd_a]; rfl
  · rw [c 1 (by decide), mhd_a]; show ¬ (11 : Int32) < 3; decide
  · rw [c 1 (by decide), mhd_a]; show (11 : Int32) ≤ 252; decide
  · rw [c 2 (by decide), c 1 (by decide), mhd_a, mhd_a]; rfl
  · rw [c 3 (by decide), mhd_a]; rfl
  · rw [c 1 (by decide), mhd_a]; rfl
  · exact putM0_16 S
  · show (f_putM0 S).a 3 15 = sumF ((f_putM0 S).a 3) 4 15 &&& 255
    rw [putM0_15, hs]
theorem putM_sel (S : MS) : f_selects (f_putM0 S) := by
  have c : ∀ j, j < 7 → (f_putM0 S).a 3 j = (f_mhd S).a 3 j := fun j hj => by rw [putM0_a S j (by omega), if_neg (by omega)]
  refine ⟨Or.inl ?_, ?_, ?_, ?_⟩
  · rw [c 4 (by decide), mhd_a]; rfl
  · rw [c 6 (by decide), mhd_a]; rfl
  · rw [c 1 (by decide), mhd_a]; rfl
  · rw [c 5 (by decide), mhd_a]; rfl
/-- a mask: every meter that is there looks at it -/
theorem putM_eq (S : MS) : f_putM S = f_end (f_run (f_begin (f_putM0 S)) false true 83 253 12) 253 := by
  have c : ∀ j, j < 7 → (f_putM0 S).a 3 j = (f_mhd S).a 3 j := fun j hj => by rw [putM0_a S j (by omega), if_neg (by omega)]
  have e4 : (f_putM0 S).a 3 4 = 83 := by rw [c 4 (by decide), mhd_a]; rfl
  have e5 : (f_putM0 S).a 3 5 = 253 := by rw [c 5 (by decide), mhd_a]; rfl
  unfold f_putM f_bus
  rw [if_neg (putM_isS S), if_pos (putM_isL S), decide_eq_true (putM_sel S), e4, e5]
theorem step_sel (S : MS) (c a : Int32) (k : Nat) : f_step S false true c a k = if S.a 10 k = 0 then S else f_sel S k := by
  unfold f_step f_does
  by_cases h : S.a 10 k = 0
  · rw [if_pos h, if_neg (fun q => q.1 h)]
  · rw [if_neg h, if_pos ⟨h, Or.inl rfl⟩, if_pos rfl]
/-- meter k fits the mask of S -/
def fitM (S : MS) (k : Nat) : Bool := (List.range 8).all (fun b => if b < 4 then (decide (S.a 19 b &&& 15 = 15) || decide (S.a 19 b &&& 15 = S.a 12 (8 * k + b) &&& 15)) && (decide (S.a 19 b >>> ((4 : Int32) &&& 31) = 15) || decide (S.a 19 b >>> ((4 : Int32) &&& 31) = S.a 12 (8 * k + b) >>> ((4 : Int32) &&& 31))) else (decide (S.a 19 b = 255) || decide (S.a 19 b = S.a 12 (8 * k + b))))
def onM (S : MS) (k : Nat) : Bool := decide (¬ S.a 10 k = 0) && fitM S k
def cntM (S : MS) : Nat → Nat
  | 0 => 0
  | n + 1 => cntM S n + if onM S n = true then 1 else 0
theorem cntM_le (S : MS) : ∀ n, cntM S n ≤ n
  | 0 => Nat.le_refl 0
  | n + 1 => by have := cntM_le S n; rw [cntM]; split <;> omega
theorem run_cnt (S Q : MS) (h3 : ∀ b, b < 8 → Q.a 3 (7 + b) = S.a 19 b) (h10 : ∀ k, Q.a 10 k = S.a 10 k) (h12 : ∀ k, Q.a 12 k = S.a 12 k) (h7 : Q.i 7 = 0) : ∀ n, n ≤ 12 → (f_run Q false true 83 253 n).i 7 = nI (cntM S n) := by
  intro n
  induction n with
  | zero => intro _; exact h7
  | succ n ih =>
    intro hn
    have ihn := ih (by omega)
    have b10 : (f_run Q false true 83 253 n).a 10 n = S.a 10 n := (run_bz rfl n).trans (h10 n)
    have b3 : ∀ b, b < 8 → (f_run Q false true 83 253 n).a 3 (7 + b) = S.a 19 b := fun b hb => (run_bz rfl n).trans (h3 b hb)
    have b12 : ∀ j, (f_run Q false true 83 253 n).a 12 j = S.a 12 j := fun j => (run_bz rfl n).trans (h12 j)
    rw [f_run, step_sel, cntM]
    generalize f_run Q false true 83 253 n = Q1 at ihn b10 b3 b12 ⊢
    have hfit : f_all Q1 n 8 = fitM S n := by
      unfold f_all fitM
      have : ∀ l : List Nat, (∀ b ∈ l, b < 8) → l.all (f_fit Q1 n) = l.all (fun b => if b < 4 then (decide (S.a 19 b &&& 15 = 15) || decide (S.a 19 b &&& 15 = S.a 12 (8 * n + b) &&& 15)) && (decide (S.a 19 b >>> ((4 : Int32) &&& 31) = 15) || decide (S.a 19 b >>> ((4 : Int32) &&& 31) = S.a 12 (8 * n + b) >>> ((4 : Int32) &&& 31))) else (decide (S.a 19 b = 255) || decide (S.a 19 b = S.a 12 (8 * n + b)))) := by
        intro l
        induction l with
        | nil => intro _; rfl
        | cons x xs ihx =>
          intro hx
          rw [List.all_cons, List.all_cons, ihx (fun b hb => hx b (List.mem_cons_of_mem _ hb))]
          congr 1
          unfold f_fit
          rw [b3 x (hx x List.mem_cons_self), b12]
      exact this _ (fun b hb => List.mem_range.mp hb)
    unfold onM
    by_cases h0 : Q1.a 10 n = 0
    · rw [if_pos h0, if_neg (by rw [b10] at h0; simp [h0])]
      exact ihn
    · rw [if_neg h0]
      rw [b10] at h0
      unfold f_sel
      rw [hfit]
      by_cases hf : fitM S n = true
      · rw [if_pos hf, if_pos (by simp [h0, hf])]
        show (Q1.sa 13 n 1).i 7 + 1 = _
        rw [MS.sa_i, ihn]
        exact nI_1 _
      · rw [if_neg hf, if_neg (by simp [hf])]
        exact ihn
/-- how many answer a mask -/
theorem putM_7 (S : MS) : (f_putM S).i 7 = nI (cntM S 12) := by
  rw [putM_eq]
  have h := run_cnt S (f_begin (f_putM0 S)) (fun b hb => by rw [bg_a, putM0_a S (7 + b) (by omega), if_pos (by omega), show 7 + b - 7 = b by omega]) (fun k => by
    rw [bg_a]; unfold f_putM0; rw [MS.si_a, sa_ne (by decide), sa_ne (by decide), f_mcp_a _ _ (by decide)]; unfold f_mhd
    rw [sa_ne (by decide), sa_ne (by decide), sa_ne (by decide), sa_ne (by decide), sa_ne (by decide), sa_ne (by decide), sa_ne (by decide)]) (fun k => by
    rw [bg_a]; unfold f_putM0; rw [MS.si_a, sa_ne (by decide), sa_ne (by decide), f_mcp_a _ _ (by decide)]; unfold f_mhd
    rw [sa_ne (by decide), sa_ne (by decide), sa_ne (by decide), sa_ne (by decide), sa_ne (by decide), sa_ne (by decide), sa_ne (by decide)]) rfl 12 (Nat.le_refl 12)
  generalize f_run (f_begin (f_putM0 S)) false true 83 253 12 = Q at h ⊢
  exact h
