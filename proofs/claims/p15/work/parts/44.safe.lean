/-! The search comes to its end: no more are found than fit. -/
def cn (p : Nat → Bool) : Nat → Nat
  | 0 => 0
  | n + 1 => cn p n + if p n = true then 1 else 0
theorem cn_congr {p q : Nat → Bool} : ∀ n, (∀ k, k < n → (p k = true ↔ q k = true)) → cn p n = cn q n
  | 0, _ => rfl
  | n + 1, h => by
    rw [cn, cn, cn_congr n (fun k hk => h k (by omega))]
    by_cases g : p n = true
    · rw [if_pos g, if_pos ((h n (by omega)).mp g)]
    · rw [if_neg g, if_neg (fun q => g ((h n (by omega)).mpr q))]
theorem cn_add {p q r : Nat → Bool} : ∀ n, (∀ k, k < n → (p k = true → r k = true) ∧ (q k = true → r k = true) ∧ ¬ (p k = true ∧ q k = true)) → cn p n + cn q n ≤ cn r n
  | 0, _ => Nat.le_refl 0
  | n + 1, h => by
    have ih := cn_add n (fun k hk => h k (by omega))
    obtain ⟨h1, h2, h3⟩ := h n (by omega)
    rw [cn, cn, cn]
    by_cases g1 : p n = true
    · rw [if_pos g1, if_neg (fun g2 => h3 ⟨g1, g2⟩), if_pos (h1 g1)]; omega
    · rw [if_neg g1]
      by_cases g2 : q n = true
      · rw [if_pos g2, if_pos (h2 g2)]; omega
      · rw [if_neg g2]; split <;> omega
theorem cn_mono {p r : Nat → Bool} (n : Nat) (h : ∀ k, k < n → p k = true → r k = true) : cn p n ≤ cn r n := by
  have := cn_add (p := p) (q := fun _ => false) (r := r) n (fun k hk => ⟨h k hk, fun q => absurd q (by decide), fun q => absurd q.2 (by decide)⟩)
  omega
theorem cn_le1 {p : Nat → Bool} : ∀ n, (∀ i j, i < n → j < n → p i = true → p j = true → i = j) → cn p n ≤ 1
  | 0, _ => Nat.zero_le 1
  | n + 1, h => by
    have ih := cn_le1 n (fun i j hi hj => h i j (by omega) (by omega))
    rw [cn]
    by_cases g : p n = true
    · have z : cn p n = 0 := by
        have : ∀ m, m ≤ n → cn p m = 0 := by
          intro m
          induction m with
          | zero => intro _; rfl
          | succ m ihm => intro hm; rw [cn, ihm (by omega), if_neg (fun q => by have := h m n (by omega) (by omega) q g; omega)]
        exact this n (Nat.le_refl n)
      rw [if_pos g]; omega
    · rw [if_neg g]; omega
theorem cntM_cn (S : MS) : ∀ n, cntM S n = cn (onM S) n
  | 0 => rfl
  | n + 1 => by rw [cntM, cn, cntM_cn S n]
theorem onM_iff {S : MS} (h : WFb S) (k : Nat) : onM S k = true ↔ ¬ S.a 10 k = 0 ∧ ∀ n, n < 12 → prt (mby S) n = wld n ∨ prt (mby S) n = prt (sby S k) n := by
  unfold onM
  rw [Bool.and_eq_true, decide_eq_true_eq, fitM_iff h]
/-- no two meters have the same address -/
def DS (S : MS) : Prop := ∀ j k, j < 12 → k < 12 → ¬ S.a 10 j = 0 → ¬ S.a 10 k = 0 → (∀ n, n < 12 → prt (sby S j) n = prt (sby S k) n) → j = k
/-- meters as they were, as far as the search looks at them -/
def SM (S S' : MS) : Prop := (∀ j, S'.a 10 j = S.a 10 j) ∧ ∀ j, S'.a 12 j = S.a 12 j
theorem SM.tr {S S1 S2 : MS} (h : SM S S1) (g : SM S1 S2) : SM S S2 := ⟨fun j => (g.1 j).trans (h.1 j), fun j => (g.2 j).trans (h.2 j)⟩
theorem SM.sb {S S' : MS} (h : SM S S') (k : Nat) : sby S' k = sby S k := by funext b; unfold sby; rw [h.2]
theorem DS.sm {S S' : MS} (d : DS S) (h : SM S S') : DS S' := fun j k hj hk a b e => d j k hj hk (by rw [← h.1]; exact a) (by rw [← h.1]; exact b) (fun n hn => by rw [← h.sb j, ← h.sb k]; exact e n hn)
theorem putM_sm (S : MS) : SM S (f_putM S) := ⟨fun j => putM_bz rfl (by decide), fun j => putM_bz rfl (by decide)⟩
theorem putM_mby (S : MS) : mby (f_putM S) = mby S := by funext b; unfold mby; rw [putM_bz rfl (by decide)]
theorem one_sm (S : MS) : SM S (f_one S) := ⟨fun j => one_bz rfl (by decide) (by decide), fun j => one_bz rfl (by decide) (by decide)⟩
theorem one_mby (S : MS) : mby (f_one S) = mby S := by funext b; unfold mby; rw [one_bz rfl (by decide) (by decide)]
theorem WFb.fcp {S : MS} {f : Nat} (h : WFb S) : ∀ n, WFb (f_fcp S f n)
  | 0 => h
  | n + 1 => (h.fcp n).sa (fun _ => h 5 (7 + n) rfl)
theorem WFb.one {S : MS} (h : WFb S) (hm : WFa S) : WFb (f_one S) := by
  unfold f_one
  split
  · have h0 : WFb (f_find0 S) := ((h.putS hm ⟨64, by decide, rfl⟩).putM hm.putS).putS hm.putS.putM ⟨91, by decide, rfl⟩
    unfold f_find
    split
    · exact (h0.fcp 8).si
    · exact h0
  · exact h
theorem one_20 {S : MS} {f : Nat} (h : S.i 20 = nI f) (hf : f < 100) : ∃ f', (f_one S).i 20 = nI f' ∧ f ≤ f' ∧ f' ≤ f + if S.i 7 = 1 then 1 else 0 := by
  have ec : f_c S = f := by unfold f_c; rw [h, nI_clamp (by omega)]
  unfold f_one
  by_cases g : S.i 7 = 1
  · rw [if_pos g, ec, if_pos g]
    unfold f_find
    split
    · exact ⟨f + 1, rfl, by omega, by omega⟩
    · exact ⟨f, (f_find0_i _ (by decide) (by decide) (by decide) (by decide) (by decide)).trans h, by omega, by omega⟩
  · rw [if_neg g, if_neg g]
    exact ⟨f, h, by omega, by omega⟩
/-- what a probe leaves -/
def PL (S S' : MS) (f c : Nat) : Prop := WFb S' ∧ WFa S' ∧ SM S S' ∧ (∀ n, n < 12 → prt (mby S') n = prt (mby S) n) ∧ ∃ f', S'.i 20 = nI f' ∧ f ≤ f' ∧ f' ≤ f + c
theorem part_i (S : MS) (n : Nat) (v : Int32) (q : Nat) : (f_part S n v).i q = S.i q := by
  unfold f_part
  split <;> rfl
theorem onC {S C : MS} {n v : Nat} (hS : WFb S) (hC : WFb C) (sm : SM S C) (hn : n < 12) (hp : ∀ m, m < 12 → prt (mby C) m = if m = n then v else prt (mby S) m) (hw : prt (mby S) n = wld n) (hv : v ≠ wld n) (k : Nat) : onM C k = true ↔ onM S k = true ∧ v = prt (sby S k) n := by
  rw [onM_iff hC, onM_iff hS, sm.1, sm.sb]
  constructor
  · intro h
    have h0 := h.2 n hn
    rw [hp n hn, if_pos rfl] at h0
    refine ⟨⟨h.1, fun m hm => ?_⟩, h0.resolve_left hv⟩
    by_cases e : m = n
    · rw [e]; exact .inl hw
    · have := h.2 m hm
      rw [hp m hm, if_neg e] at this
      exact this
  · intro h
    refine ⟨h.1.1, fun m hm => ?_⟩
    rw [hp m hm]
    by_cases e : m = n
    · rw [if_pos e, e]; exact .inr h.2
    · rw [if_neg e]; exact h.1.2 m hm
def geM (S : MS) (n v k : Nat) : Bool := onM S k && decide (v ≤ prt (sby S k) n)
theorem geM_iff (S : MS) (n v k : Nat) : geM S n v k = true ↔ onM S k = true ∧ v ≤ prt (sby S k) n := by
  unfold geM
  rw [Bool.and_eq_true, decide_eq_true_eq]
theorem ge_step {S C : MS} {n v : Nat} (h : ∀ k, onM C k = true ↔ onM S k = true ∧ v = prt (sby S k) n) : cntM C 12 + cn (geM S n (v + 1)) 12 ≤ cn (geM S n v) 12 := by
  rw [cntM_cn]
  refine cn_add 12 (fun k _ => ⟨fun q => ?_, fun q => ?_, fun q => ?_⟩)
  · obtain ⟨a, b⟩ := (h k).mp q
    exact (geM_iff S n v k).mpr ⟨a, by omega⟩
  · obtain ⟨a, b⟩ := (geM_iff S n (v + 1) k).mp q
    exact (geM_iff S n v k).mpr ⟨a, by omega⟩
  · obtain ⟨a, b⟩ := (h k).mp q.1
    obtain ⟨c, d⟩ := (geM_iff S n (v + 1) k).mp q.2
    omega
theorem limN_wld {n v : Nat} (h : v < limN n) : v ≠ wld n ∧ v < if n < 8 then 16 else 256 := by
  unfold limN at h
  unfold wld
  split at h
  · rename_i g; rw [if_pos g, if_pos g]; omega
  · rename_i g; rw [if_neg g, if_neg g]; omega
theorem wld_lt (n : Nat) : wld n < if n < 8 then 16 else 256 := by unfold wld; split <;> omega
theorem PRk_ok {g : MS → Option MS} {n : Nat} {S : MS} (hn : n < 12) (hS : WFb S) (ds : DS S) (hw : ∀ m, n ≤ m → m < 12 → prt (mby S) m = wld m) (hx : ∀ m, m < n → m < 12 → prt (mby S) m ≠ wld m)
    (ih : ∀ (C : MS) (f : Nat), WFb C → WFa C → DS C → C.i 20 = nI f → f + cntM C 12 ≤ 99 → (∀ m, n + 1 ≤ m → m < 12 → prt (mby C) m = wld m) → (∀ m, m < n + 1 → m < 12 → prt (mby C) m ≠ wld m) → ∃ S', g C = some S' ∧ PL C S' f (cntM C 12)) :
    ∀ (c v : Nat) (Q : MS) (f : Nat), v + c = limN n → WFb Q → WFa Q → SM S Q → (∀ m, m < 12 → m ≠ n → prt (mby Q) m = prt (mby S) m) → Q.i 20 = nI f → f + cn (geM S n v) 12 ≤ 99 → ∃ S', PRk g n c v Q = some S' ∧ PL S S' f (cn (geM S n v) 12)
  | 0, v, Q, f, hc, hb, ha, sm, hp, h20, hf => by
    have hb' : WFb (Q.sa 22 n (nI v)) := hb.sa (fun q => absurd q (by decide))
    have hm' : mby (Q.sa 22 n (nI v)) = mby Q := by funext b; unfold mby; rw [sa_ne (by decide)]
    refine ⟨_, rfl, ?_, ?_, ?_, ?_, f, ?_, Nat.le_refl f, by omega⟩
    · rw [part_wild]; exact hb'.part _ (wld_lt n)
    · exact (ha.sa (by decide) (by decide) (by decide)).part
    · exact sm.tr ⟨fun j => (part_ne (by decide)).trans (sa_ne (by decide)), fun j => (part_ne (by decide)).trans (sa_ne (by decide))⟩
    · intro m hm
      rw [part_wild, part_prt hb' hn _ (wld_lt n) m hm, hm']
      by_cases e : m = n
      · rw [if_pos e, e]; exact (hw n (Nat.le_refl n) hn).symm
      · rw [if_neg e]; exact hp m hm e
    · rw [part_i, MS.sa_i]; exact h20
  | c + 1, v, Q, f, hc, hb, ha, sm, hp, h20, hf => by
    have hl := limN_wld (n := n) (v := v) (by omega)
    have hb' : WFb (Q.sa 22 n (nI v)) := hb.sa (fun q => absurd q (by decide))
    have hm' : mby (Q.sa 22 n (nI v)) = mby Q := by funext b; unfold mby; rw [sa_ne (by decide)]
    rw [PRk]
    have cb : WFb (f_part (Q.sa 22 n (nI v)) n (nI v)) := hb'.part v hl.2
    have ca : WFa (f_part (Q.sa 22 n (nI v)) n (nI v)) := (ha.sa (by decide) (by decide) (by decide)).part
    have cs : SM S (f_part (Q.sa 22 n (nI v)) n (nI v)) := sm.tr ⟨fun j => (part_ne (by decide)).trans (sa_ne (by decide)), fun j => (part_ne (by decide)).trans (sa_ne (by decide))⟩
    have cp : ∀ m, m < 12 → prt (mby (f_part (Q.sa 22 n (nI v)) n (nI v))) m = if m = n then v else prt (mby S) m := by
      intro m hm
      rw [part_prt hb' hn v hl.2 m hm, hm']
      by_cases e : m = n
      · rw [if_pos e, if_pos e]
      · rw [if_neg e, if_neg e]; exact hp m hm e
    have c20 : (f_part (Q.sa 22 n (nI v)) n (nI v)).i 20 = nI f := by rw [part_i, MS.sa_i]; exact h20
    generalize f_part (Q.sa 22 n (nI v)) n (nI v) = C at cb ca cs cp c20 ⊢
    have on := onC hS cb cs hn cp (hw n (Nat.le_refl n) hn) hl.1
    have st := ge_step on
    obtain ⟨S1, e1, b1, a1, s1, p1, f1, g1, g2, g3⟩ := ih C f cb ca (ds.sm cs) c20 (by omega)
      (fun m h1 h2 => by rw [cp m h2, if_neg (by omega)]; exact hw m (by omega) h2)
      (fun m h1 h2 => by
        rw [cp m h2]
        by_cases e : m = n
        · rw [if_pos e, e]; exact hl.1
        · rw [if_neg e]; exact hx m (by omega) h2)
    obtain ⟨S2, e2, b2, a2, s2, p2, f2, k1, k2, k3⟩ := PRk_ok hn hS ds hw hx ih c (v + 1) S1 f1 (by omega) b1 a1 (cs.tr s1)
      (fun m h1 h2 => by rw [p1 m h1, cp m h1, if_neg h2]) g1 (by omega)
    refine ⟨S2, ?_, b2, a2, s2, p2, f2, k1, by omega, by omega⟩
    rw [e1]
    exact e2
theorem PR_ok : ∀ (d n : Nat) (S : MS) (f : Nat), n + d = 13 → n ≤ 12 → WFb S → WFa S → DS S → S.i 20 = nI f → f + cntM S 12 ≤ 99 → (∀ m, n ≤ m → m < 12 → prt (mby S) m = wld m) → (∀ m, m < n → m < 12 → prt (mby S) m ≠ wld m) → ∃ S', PRo d n S = some S' ∧ PL S S' f (cntM S 12)
  | 0, n, S, f, hd, hn, hb, ha, ds, h20, hf, hw, hv => by
    exact absurd hd (by omega)
  | d + 1, n, S, f, hd, hn, hb, ha, ds, h20, hf, hw, hv => by
    have e7 := putM_7 S
    have p20 : (f_putM S).i 20 = nI f := (f_putM_i _ (by decide) (by decide) (by decide) (by decide) (by decide)).trans h20
    have cl := cntM_le S 12
    rw [PRo]
    by_cases g : 1 < cntM S 12
    · rw [if_pos (by rw [e7]; exact nI_lt (a := 1) g (by omega))]
      by_cases h12 : n < 12
      · rw [if_pos h12]
        have hc : cn (geM S n 0) 12 ≤ cntM S 12 := by
          rw [cntM_cn]
          exact cn_mono 12 (fun k _ q => ((geM_iff S n 0 k).mp q).1)
        obtain ⟨S', e, b, a, s, p, f', q1, q2, q3⟩ := PRk_ok (g := PRo d (n + 1)) h12 hb ds hw hv
          (fun C f' cb ca cd c20 cf cw cv => PR_ok d (n + 1) C f' (by omega) (by omega) cb ca cd c20 cf cw cv)
          (limN n) 0 (f_putM S) f (by omega) (hb.putM ha) ha.putM (putM_sm S) (fun m _ _ => by rw [putM_mby]) p20 (by omega)
        exact ⟨S', e, b, a, s, p, f', q1, q2, by omega⟩
      · exfalso
        have : cn (onM S) 12 ≤ 1 := cn_le1 12 (fun i j hi hj oi oj => by
          obtain ⟨i1, i2⟩ := (onM_iff hb i).mp oi
          obtain ⟨j1, j2⟩ := (onM_iff hb j).mp oj
          exact ds i j hi hj i1 j1 (fun m hm => ((i2 m hm).resolve_left (hv m (by omega) hm)).symm.trans ((j2 m hm).resolve_left (hv m (by omega) hm))))
        rw [← cntM_cn] at this
        omega
    · rw [if_neg (by rw [e7]; exact nI_nlt (a := 1) (Nat.not_lt.mp g) (by omega))]
      have ec : f_c (f_putM S) = f := by unfold f_c; rw [p20, nI_clamp (by omega)]
      rw [if_pos (show f_cOK (f_putM S) = true by unfold f_cOK; rw [ec, p20]; simp; omega)]
      obtain ⟨f', q1, q2, q3⟩ := one_20 p20 (by omega)
      refine ⟨_, rfl, (hb.putM ha).one ha.putM, ha.putM.one, (putM_sm S).tr (one_sm _), fun m _ => by rw [one_mby, putM_mby], f', q1, q2, ?_⟩
      rw [e7] at q3
      by_cases h1 : cntM S 12 = 1
      · rw [h1]; split at q3 <;> omega
      · rw [if_neg (fun q => h1 ((nI_eq (by omega) (by omega)).mp (q.trans (show (1 : Int32) = nI 1 from rfl))))] at q3
        omega
