/-! The search, whole: it ends, and what it leaves. -/
theorem ff_19 (S : MS) (b : Nat) : ∀ n, (f_ff S n).a 19 b = if b < n then 255 else S.a 19 b
  | 0 => (if_neg (Nat.not_lt_zero b)).symm
  | n + 1 => by
    rw [f_ff, MS.sa_a, ff_19 S b n]
    by_cases e : b = n
    · rw [if_pos ⟨rfl, e⟩, if_pos (by omega)]
    · rw [if_neg (fun q => e q.2)]
      by_cases g : b < n
      · rw [if_pos g, if_pos (by omega)]
      · rw [if_neg g, if_neg (by omega)]
theorem ff_a (S : MS) {q j : Nat} (h : q ≠ 19) : ∀ n, (f_ff S n).a q j = S.a q j
  | 0 => rfl
  | n + 1 => by rw [f_ff, sa_ne h, ff_a S h n]
theorem ff_i (S : MS) (q : Nat) : ∀ n, (f_ff S n).i q = S.i q
  | 0 => rfl
  | n + 1 => by rw [f_ff, MS.sa_i, ff_i S q n]
theorem WFb.ff {S : MS} (h : WFb S) : ∀ n, WFb (f_ff S n)
  | 0 => h
  | n + 1 => (h.ff n).sa (fun _ => ⟨255, by decide, rfl⟩)
theorem WFb.sr0 {S : MS} (h : WFb S) : WFb (f_sr0 S) := WFb.ff (S := (S.si 0 0).si 20 0) h 8
theorem WFa.sr0 {S : MS} (h : WFa S) : WFa (f_sr0 S) := h.si.si.ff 8
theorem sr0_sm (S : MS) : SM S (f_sr0 S) := ⟨fun _ => ff_a _ (by decide) 8, fun _ => ff_a _ (by decide) 8⟩
theorem sr0_20 (S : MS) : (f_sr0 S).i 20 = nI 0 := (ff_i _ 20 8).trans rfl
theorem sr0_mby (S : MS) {b : Nat} (h : b < 8) : mby (f_sr0 S) b = 255 := by
  unfold mby f_sr0
  rw [ff_19, if_pos h]
  rfl
theorem sr0_prt (S : MS) {m : Nat} (h : m < 12) : prt (mby (f_sr0 S)) m = wld m := by
  unfold prt wld
  by_cases g : m < 8
  · rw [if_pos g, if_pos g, sr0_mby S (by omega)]; split <;> rfl
  · rw [if_neg g, if_neg g, sr0_mby S (by omega)]
theorem search_ok {S : MS} (hb : WFb S) (ha : WFa S) (ds : DS S) : ∃ S', PRo 13 0 (f_sr0 S) = some S' ∧ PL (f_sr0 S) S' 0 (cntM (f_sr0 S) 12) := by
  have cl := cntM_le (f_sr0 S) 12
  exact PR_ok 13 0 (f_sr0 S) 0 (by decide) (by decide) hb.sr0 ha.sr0 (ds.sm (sr0_sm S)) (sr0_20 S) (by omega) (fun m _ hm => sr0_prt S hm) (fun m hm => absurd hm (Nat.not_lt_zero m))
def f_search (S : MS) : MS := (PRo 13 0 (f_sr0 S)).getD S
theorem search_eq {S S' : MS} (h : PRo 13 0 (f_sr0 S) = some S') : f_search S = S' := by unfold f_search; rw [h]; rfl
/-- numbers that the search leaves alone -/
def pi (q : Nat) : Bool := match q with
  | 4 => true | 6 => true | 7 => true | 8 => true | 9 => true | 20 => true | _ => false
theorem pi_ne {q k : Nat} (h : pi q = false) (hk : pi k = true) : q ≠ k := fun e => by rw [e, hk] at h; exact nomatch h
theorem fcp_i (S : MS) (f q : Nat) : ∀ n, (f_fcp S f n).i q = S.i q
  | 0 => rfl
  | n + 1 => by rw [f_fcp, MS.sa_i, fcp_i S f q n]
theorem one_pi {S : MS} {q : Nat} (h : pi q = false) : (f_one S).i q = S.i q := by
  have h0 : (f_find0 S).i q = S.i q := f_find0_i _ (pi_ne h rfl) (pi_ne h rfl) (pi_ne h rfl) (pi_ne h rfl) (pi_ne h rfl)
  unfold f_one
  split
  · unfold f_find
    split
    · rw [MS.si_i, if_neg (pi_ne h rfl), fcp_i, h0]
    · exact h0
  · rfl
theorem PRk_pi {g : MS → Option MS} {n q : Nat} (hg : ∀ S S', g S = some S' → S'.i q = S.i q) : ∀ (c v : Nat) (S S' : MS), PRk g n c v S = some S' → S'.i q = S.i q
  | 0, v, S, S', h => by
    have h := Option.some.inj h
    subst h
    rw [part_i, MS.sa_i]
  | c + 1, v, S, S', h => by
    rw [PRk] at h
    obtain ⟨S1, h1, h2⟩ := Option.bind_eq_some_iff.mp h
    rw [PRk_pi hg c (v + 1) S1 S' h2, hg _ _ h1, part_i, MS.sa_i]
theorem PRo_pi {q : Nat} (hq : pi q = false) : ∀ (d n : Nat) (S S' : MS), PRo d n S = some S' → S'.i q = S.i q
  | 0, _, _, _, h => nomatch h
  | d + 1, n, S, S', h => by
    rw [PRo] at h
    have e : (f_putM S).i q = S.i q := f_putM_i _ (pi_ne hq rfl) (pi_ne hq rfl) (pi_ne hq rfl) (pi_ne hq rfl) (pi_ne hq rfl)
    split at h
    · split at h
      · rw [PRk_pi (fun A B hAB => PRo_pi hq d (n + 1) A B hAB) _ _ _ _ h, e]
      · exact nomatch h
    · split at h
      · have h := Option.some.inj h
        subst h
        rw [one_pi hq, e]
      · exact nomatch h
/-- arrays that the search leaves alone -/
def pz (q : Nat) : Bool := bz q || (match q with
  | 3 => true | 19 => true | 21 => true | 22 => true | _ => false)
theorem pz_ne {q k : Nat} (h : pz q = false) (hk : pz k = true) : q ≠ k := fun e => by rw [e, hk] at h; exact nomatch h
theorem pz_bz {q : Nat} (h : pz q = false) : bz q = false := (Bool.or_eq_false_iff.mp h).1
theorem PRk_pz {g : MS → Option MS} {n q j : Nat} (hq : pz q = false) (hg : ∀ S S', g S = some S' → S'.a q j = S.a q j) : ∀ (c v : Nat) (S S' : MS), PRk g n c v S = some S' → S'.a q j = S.a q j
  | 0, v, S, S', h => by
    have h := Option.some.inj h
    subst h
    rw [part_ne (pz_ne hq rfl), sa_ne (pz_ne hq rfl)]
  | c + 1, v, S, S', h => by
    rw [PRk] at h
    obtain ⟨S1, h1, h2⟩ := Option.bind_eq_some_iff.mp h
    rw [PRk_pz hq hg c (v + 1) S1 S' h2, hg _ _ h1, part_ne (pz_ne hq rfl), sa_ne (pz_ne hq rfl)]
theorem PRo_pz {q j : Nat} (hq : pz q = false) : ∀ (d n : Nat) (S S' : MS), PRo d n S = some S' → S'.a q j = S.a q j
  | 0, _, _, _, h => nomatch h
  | d + 1, n, S, S', h => by
    rw [PRo] at h
    have e : (f_putM S).a q j = S.a q j := putM_bz (pz_bz hq) (pz_ne hq rfl)
    split at h
    · split at h
      · rw [PRk_pz hq (fun A B hAB => PRo_pz hq d (n + 1) A B hAB) _ _ _ _ h, e]
      · exact nomatch h
    · split at h
      · have h := Option.some.inj h
        subst h
        rw [one_bz (pz_bz hq) (pz_ne hq rfl) (pz_ne hq rfl), e]
      · exact nomatch h
/-- all that holds of the model between two calls -/
def MG (S : MS) : Prop := MI S ∧ DS S ∧ (∃ n, S.i 2 = nI n ∧ n ≤ 300) ∧ ∃ f, S.i 20 = nI f ∧ f ≤ 12
theorem MG.mi {S : MS} (h : MG S) : MI S := h.1
theorem MG.ds {S : MS} (h : MG S) : DS S := h.2.1
theorem MG.buf {S : MS} (h : MG S) : ∃ n, S.i 2 = nI n ∧ n ≤ 300 := h.2.2.1
theorem MG.fnd {S : MS} (h : MG S) : ∃ f, S.i 20 = nI f ∧ f ≤ 12 := h.2.2.2
theorem MG.search {S : MS} (h : MG S) : MG (f_search S) := by
  obtain ⟨S', e, b, a, s, p, f', q1, q2, q3⟩ := search_ok h.mi.1 h.mi.2.1 h.ds
  have cl := cntM_le (f_sr0 S) 12
  rw [search_eq e]
  have hi : ∀ q, pi q = false → q ≠ 0 → S'.i q = S.i q := fun q hq h0 => by
    rw [PRo_pi hq _ _ _ _ e]
    unfold f_sr0
    rw [ff_i, MS.si_i, if_neg (pi_ne hq rfl), MS.si_i, if_neg h0]
  obtain ⟨n, n1, n2⟩ := h.buf
  exact ⟨⟨b, a, h.mi.2.2.same (hi 23 rfl (by decide)) (hi 34 rfl (by decide))⟩, (h.ds.sm (sr0_sm S)).sm s, ⟨n, (hi 2 rfl (by decide)).trans n1, n2⟩, ⟨f', q1, by omega⟩⟩
section SE
variable {w : Wd} {M : MW} {S : MS}
theorem g_search (hW : Wm w M) (h : MG S) : TF w M yX7_search cX7_search 3 (some .int) 6 [] S (some (.int ((f_search S).i 20))) (f_search S) := by
  obtain ⟨S', e, -⟩ := search_ok h.mi.1 h.mi.2.1 h.ds
  obtain ⟨t, ht⟩ := sr_all e
  rw [search_eq e]
  exact s_search hW h.mi.2.1 t S' ht
end SE
