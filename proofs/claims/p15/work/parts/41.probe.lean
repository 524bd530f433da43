/-! The search as a recursion: PRo; the model's loop f_sr goes through it. -/
def bz (q : Nat) : Bool := match q with
  | 5 => true | 11 => true | 13 => true | 14 => true | 15 => true | 16 => true | _ => false
theorem sa_bz {S : MS} {k i q j : Nat} {v : Int32} (hk : bz k = true) (hq : bz q = false) : (S.sa k i v).a q j = S.a q j := sa_ne (fun e => by rw [e, hk] at hq; exact nomatch hq)
theorem ack_bz {S : MS} {q j : Nat} (hq : bz q = false) : (f_ack S).a q j = S.a q j := f_ack_a S (fun e => by rw [e] at hq; exact nomatch hq)
theorem step_bz {S : MS} {isS sel : Bool} {c a : Int32} {k q j : Nat} (hq : bz q = false) : (f_step S isS sel c a k).a q j = S.a q j := by
  have hf : ∀ Q : MS, (f_forget Q k).a q j = Q.a q j := fun Q => by unfold f_forget; rw [sa_bz rfl hq, sa_bz rfl hq]
  unfold f_step f_does
  split
  · split
    · unfold f_sel
      split
      · rw [ack_bz hq, sa_bz rfl hq]
      · rw [sa_bz rfl hq]
    · split
      · unfold f_short
        split
        · rw [ack_bz hq, sa_bz rfl hq, hf]
        · split
          · unfold f_asked
            rw [MS.si_a, sa_bz rfl hq, sa_bz rfl hq, sa_bz rfl hq, MS.ans_ne (fun e => by rw [e] at hq; exact nomatch hq)]
          · rfl
      · split
        · unfold f_long
          split
          · rw [ack_bz hq, hf]
          · split
            · rw [ack_bz hq, sa_bz rfl hq]
            · rfl
        · rfl
  · rfl
theorem run_bz {S : MS} {isS sel : Bool} {c a : Int32} {q j : Nat} (hq : bz q = false) : ∀ n, (f_run S isS sel c a n).a q j = S.a q j
  | 0 => rfl
  | n + 1 => by rw [f_run, step_bz hq, run_bz hq n]
theorem end_a (S : MS) (a : Int32) (q j : Nat) : (f_end S a).a q j = S.a q j := rfl
theorem bus_bz {S : MS} {n q j : Nat} (hq : bz q = false) : (f_bus S n).a q j = S.a q j := by
  unfold f_bus
  split
  · rw [end_a, run_bz hq]; rfl
  · split
    · rw [end_a, run_bz hq]; rfl
    · rfl
theorem mcp_a3 {S : MS} {n q j : Nat} (h : q ≠ 3) : (f_mcp S n).a q j = S.a q j := f_mcp_a S n h
theorem putM_bz {S : MS} {q j : Nat} (hq : bz q = false) (h3 : q ≠ 3) : (f_putM S).a q j = S.a q j := by
  unfold f_putM
  rw [bus_bz hq]
  unfold f_putM0
  rw [MS.si_a, sa_ne h3, sa_ne h3, f_mcp_a _ _ h3]
  unfold f_mhd
  rw [sa_ne h3, sa_ne h3, sa_ne h3, sa_ne h3, sa_ne h3, sa_ne h3, sa_ne h3]
theorem putS_bz {S : MS} {c : Int32} {q j : Nat} (hq : bz q = false) (h3 : q ≠ 3) : (f_putS S c).a q j = S.a q j := by
  unfold f_putS
  rw [bus_bz hq]
  unfold f_putS0
  rw [MS.si_a, sa_ne h3, sa_ne h3, sa_ne h3, sa_ne h3, sa_ne h3]
theorem find_bz {S : MS} {f q j : Nat} (hq : bz q = false) (h3 : q ≠ 3) (h21 : q ≠ 21) : (f_find S f).a q j = S.a q j := by
  have h0 : (f_find0 S).a q j = S.a q j := by unfold f_find0; rw [putS_bz hq h3, putM_bz hq h3, putS_bz hq h3]
  unfold f_find
  split
  · rw [MS.si_a, f_fcp_a _ _ _ h21, h0]
  · exact h0
theorem one_bz {S : MS} {q j : Nat} (hq : bz q = false) (h3 : q ≠ 3) (h21 : q ≠ 21) : (f_one S).a q j = S.a q j := by
  unfold f_one
  split
  · exact find_bz hq h3 h21
  · rfl
theorem part_ne {S : MS} {n q j : Nat} {v : Int32} (h : q ≠ 19) : (f_part S n v).a q j = S.a q j := by
  unfold f_part
  split
  · exact sa_ne h
  · exact sa_ne h
def limN (n : Nat) : Nat := if n < 8 then 10 else 255
theorem limN_eq (n : Nat) : f_lim n = nI (limN n) := by unfold f_lim limN; split <;> rfl
theorem limN_le (n : Nat) : 1 ≤ limN n ∧ limN n ≤ 255 := by unfold limN; split <;> omega
/-- the values of part n from v on, c of them; then its bits are 1 again -/
def PRk (g : MS → Option MS) (n : Nat) : Nat → Nat → MS → Option MS
  | 0, v, S => some (f_part (S.sa 22 n (nI v)) n (-1))
  | c + 1, v, S => (g (f_part (S.sa 22 n (nI v)) n (nI v))).bind (fun S' => PRk g n c (v + 1) S')
/-- PROBE n (d: how deep it may go) -/
def PRo : Nat → Nat → MS → Option MS
  | 0, _, _ => none
  | d + 1, n, S =>
    if 1 < (f_putM S).i 7 then (if n < 12 then PRk (PRo d (n + 1)) n (limN n) 0 (f_putM S) else none)
    else if f_cOK (f_putM S) = true then some (f_one (f_putM S)) else none
def BK (t n : Nat) (S : MS) : Option MS := if (f_back n S).2.2 = true then f_sr t (f_back n S).1 (f_back n S).2.1 else some (f_back n S).1
theorem PRk_tried {g : MS → Option MS} {n : Nat} (hg : ∀ S S', g S = some S' → ∀ j, j < n + 1 → S'.a 22 j = S.a 22 j) : ∀ (c v : Nat) (S S' : MS), PRk g n c v S = some S' → ∀ j, j < n → S'.a 22 j = S.a 22 j
  | 0, v, S, S', h, j, hj => by
    have h := Option.some.inj h
    subst h
    rw [part_ne (by decide), MS.sa_a, if_neg (by omega)]
  | c + 1, v, S, S', h, j, hj => by
    rw [PRk] at h
    obtain ⟨S1, h1, h2⟩ := Option.bind_eq_some_iff.mp h
    rw [PRk_tried hg c (v + 1) S1 S' h2 j hj, hg _ _ h1 j (by omega), part_ne (by decide), MS.sa_a, if_neg (by omega)]
theorem PRo_tried : ∀ (d n : Nat) (S S' : MS), PRo d n S = some S' → ∀ j, j < n → S'.a 22 j = S.a 22 j
  | 0, _, _, _, h, _, _ => nomatch h
  | d + 1, n, S, S', h, j, hj => by
    rw [PRo] at h
    have e : (f_putM S).a 22 j = S.a 22 j := putM_bz rfl (by decide)
    split at h
    · split at h
      · rw [PRk_tried (fun A B hAB => PRo_tried d (n + 1) A B hAB) _ _ _ _ h j hj, e]
      · exact nomatch h
    · split at h
      · have h := Option.some.inj h
        subst h
        rw [one_bz rfl (by decide) (by decide), e]
      · exact nomatch h
/-- the loop goes through a probe, then on by the way back -/
theorem sr_PR : ∀ (d n : Nat) (S S' : MS), PRo d n S = some S' → ∃ k, ∀ t, f_sr (t + k) S n = BK t n S'
  | 0, _, _, _, h => nomatch h
  | d + 1, n, S, S', h => by
    rw [PRo] at h
    split at h
    · rename_i h1
      split at h
      · rename_i h2
        have key : ∀ (c v : Nat) (Q : MS), v + c = limN n → 1 ≤ c → PRk (PRo d (n + 1)) n c v Q = some S' → ∃ k, ∀ t, f_sr (t + k) (f_part (Q.sa 22 n (nI v)) n (nI v)) (n + 1) = BK t n S' := by
          intro c
          induction c with
          | zero => intro v Q _ h0; exact absurd h0 (by omega)
          | succ c ih =>
            intro v Q hv _ hk
            rw [PRk] at hk
            obtain ⟨S1, k1, k2⟩ := Option.bind_eq_some_iff.mp hk
            obtain ⟨k, hkk⟩ := sr_PR d (n + 1) _ S1 k1
            have et : S1.a 22 n = nI v := by rw [PRo_tried d (n + 1) _ S1 k1 n (by omega), part_ne (by decide), MS.sa_a, if_pos ⟨rfl, rfl⟩]
            have hl := limN_le n
            have e1 : S1.a 22 n + 1 = nI (v + 1) := by rw [et]; exact nI_1 v
            by_cases hc : c = 0
            · subst hc
              have hR : S' = f_part (S1.sa 22 n (nI (v + 1))) n (-1) := (Option.some.inj k2).symm
              have hb : f_back (n + 1) S1 = f_back n S' := by
                rw [f_back, e1, limN_eq, if_neg (nI_nlt (by omega) (by omega)), hR]
              refine ⟨k, fun t => ?_⟩
              rw [hkk t]
              unfold BK
              rw [hb]
            · obtain ⟨k', hk'⟩ := ih (v + 1) S1 (by omega) (by omega) k2
              have hb : f_back (n + 1) S1 = (f_part (S1.sa 22 n (nI (v + 1))) n (nI (v + 1)), n + 1, true) := by
                rw [f_back, e1, limN_eq, if_pos (nI_lt (by omega) (by omega))]
              refine ⟨k' + k, fun t => ?_⟩
              rw [show t + (k' + k) = (t + k') + k by omega, hkk (t + k')]
              unfold BK
              rw [hb, if_pos rfl]
              exact hk' t
        obtain ⟨k, hk⟩ := key (limN n) 0 (f_putM S) (by omega) (limN_le n).1 h
        refine ⟨k + 1, fun t => ?_⟩
        rw [show t + (k + 1) = (t + k) + 1 by omega, f_sr, if_pos h1, if_pos h2]
        exact hk t
      · exact nomatch h
    · rename_i h1
      split at h
      · rename_i h2
        have h := Option.some.inj h
        subst h
        refine ⟨1, fun t => ?_⟩
        rw [f_sr, if_neg h1, if_pos h2]
        rfl
      · exact nomatch h
/-- the search, whole: a recursion that comes to an end is what the loop does -/
theorem sr_all {S S' : MS} (h : PRo 13 0 S = some S') : ∃ t, f_sr t S 0 = some S' := by
  obtain ⟨k, hk⟩ := sr_PR 13 0 S S' h
  exact ⟨0 + k, (hk 0).trans rfl⟩
