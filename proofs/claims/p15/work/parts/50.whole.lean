/-! The model's whole invariant, and each call over it. -/
theorem f_bS_ZS (S : MS) (n i : Nat) (lo hi : Int32) : ZS S (f_bS S n i lo hi) := by
  unfold f_bS
  split
  · exact ZS.rf S
  · exact ZS.bl S _ _
theorem ZS.ids (S : MS) (L : Nat) : ∀ (t k : Nat), ZS S (f_ids S L t k).2
  | 0, _ => ZS.si S _ _
  | t + 1, k => by
    unfold f_ids
    split
    · exact ZS.bl S _ _
    · exact ZS.ids S L t (k + 1)
theorem ZS.fr3 (S : MS) : ZS S (f_fr3 S).2 := by
  unfold f_fr3
  split
  · exact ZS.ids S _ _ _
  · exact ZS.bl S _ _
theorem ZS.fr2 (S : MS) (n : Nat) : ZS S (f_fr2 S n).2 := by
  unfold f_fr2
  split
  · split
    · split
      · split
        · exact ZS.fr3 S
        · exact f_bS_ZS S _ _ _ _
      · exact f_bS_ZS S _ _ _ _
    · exact f_bS_ZS S _ _ _ _
  · exact ZS.bl S _ _
theorem ZS.fr (S : MS) (n : Nat) : ZS S (f_fr S n).2 := by
  unfold f_fr
  split
  · split
    · split
      · split
        · exact ZS.fr2 S n
        · exact f_bS_ZS S _ _ _ _
      · exact f_bS_ZS S _ _ _ _
    · exact f_bS_ZS S _ _ _ _
  · exact f_bS_ZS S _ _ _ _
def QL (S : MS) : Prop := ∃ r, S.i 23 = nI r ∧ r ≤ 100 ∧ QR S r
theorem QL.s {S S' : MS} (h : QL S) (z : ZS S S') (e : S'.i 23 = S.i 23) : QL S' := by
  obtain ⟨r, h1, h2, h3⟩ := h
  exact ⟨r, e.trans h1, h2, h3.s z⟩
theorem ZS.da0 (S : MS) (q n : Nat) : ZS S (f_da0 S q n) := fun k j hk => by
  unfold f_da0
  rw [f_cp_ne _ _ (tq_ne hk rfl)]
  rfl
theorem da1_ok {S : MS} {r : Nat} (q n : Nat) (h : LR S) (h23 : S.i 23 = nI r) (hr : r ≤ 100) (hq : QR S r) : ∃ r', r ≤ r' ∧ r' ≤ 100 ∧ (f_da1 S q n).i 23 = nI r' ∧ QR (f_da1 S q n) r' := by
  have z0 := ZS.da0 S q n
  have i0 : (f_da0 S q n).i 23 = S.i 23 := by unfold f_da0; rw [f_cp_i]; rfl
  have h0 : LR (f_da0 S q n) := h.same i0 (by unfold f_da0; rw [f_cp_i]; rfl)
  unfold f_da1
  generalize f_da0 S q n = S1 at z0 i0 h0 ⊢
  split
  · rename_i g
    have zf := ZS.fr S1 n
    obtain ⟨L, l1, l2, l3, l4⟩ := f_fr_t g
    rw [l4] at zf ⊢
    obtain ⟨r1, tx, a1, a2, a3, a4⟩ := h0
    obtain rfl : r1 = r := (nI_eq (by omega) (by omega)).mp (a1.symm.trans (i0.trans h23))
    exact QR.rl (e := L + 4) (by omega) 300 _ r1 tx 19 ⟨rfl, rfl, by omega, a1, a3⟩ (by decide) a2 a4 (hq.s ((z0.tr zf).tr (ZS.si _ _ _)))
  · exact ⟨r, Nat.le_refl r, hr, (f_fr_i _ _ (by decide) (by decide) (by decide)).trans (i0.trans h23), hq.s (z0.tr (ZS.fr S1 n))⟩
theorem QL.da {S : MS} (h : QL S) (hl : LR S) (q n : Nat) : QL (f_da S q n) := by
  obtain ⟨r, h1, h2, h3⟩ := h
  obtain ⟨r', k1, k2, k3, k4⟩ := da1_ok q n hl h1 h2 h3
  unfold f_da
  generalize f_da1 S q n = S1 at k3 k4 ⊢
  split
  · exact ⟨r, h1, h2, (k4.le k1).s ((ZS.si _ _ _).tr (ZS.si _ _ _))⟩
  · exact ⟨r', k3, k2, k4⟩
/-- all that holds of the model between two calls, whole -/
def MH (S : MS) : Prop := MG S ∧ QL S ∧ ∀ k, S.a 10 k = 0 ∨ S.a 10 k = 1
theorem MH.of {S S' : MS} (h : MH S) (g : MG S') (z : ZS S S') (e : S'.i 23 = S.i 23) (b : ∀ k, S'.a 10 k = S.a 10 k) : MH S' := ⟨g, h.2.1.s z e, fun k => by rw [b]; exact h.2.2 k⟩
theorem MH.s0 {S : MS} (h : MH S) (v : Int32) : MH (S.si 0 v) := h.of (h.1.s0 v) (ZS.si _ _ _) rfl (fun _ => rfl)
theorem MH.clear {S : MS} (h : MH S) : MH (((S.si 0 0).si 23 0).si 34 0) := ⟨h.1.clear, ⟨0, rfl, by decide, fun j hj => absurd hj (Nat.not_lt_zero j)⟩, h.2.2⟩
theorem MH.keep {S : MS} (h : MH S) {n : Nat} (hn : n ≤ 300) : MH ((S.si 0 0).si 2 (nI n)) := h.of (h.1.keep hn) ((ZS.si _ _ _).tr (ZS.si _ _ _)) rfl (fun _ => rfl)
theorem MH.remove {S : MS} (h : MH S) (k : Nat) : MH ((S.si 0 0).sa 10 k 0) := ⟨h.1.remove k, h.2.1.s ((ZS.si _ _ _).tr (ZS.sa _ 10 k 0)) rfl, fun j => by
  rw [MS.sa_a]
  split
  · exact .inl rfl
  · exact h.2.2 j⟩
theorem MH.type {S : MS} {b : Int64} {m s : Nat} (h : MH S) (hs : S.i 2 = nI s) (hq : s + m ≤ 300) : MH (f_ty b m s (S.si 0 0)) := h.of (h.1.type hs hq) (fun _ _ hq => ty_a (tq_ne hq rfl) m s _) (ty_i (by decide) m s _) (fun _ => ty_a (by decide) m s _)
theorem page_a {S : MS} {k i n q j : Nat} (h17 : q ≠ 17) (h18 : q ≠ 18) : (f_page S k i n).a q j = S.a q j := by
  unfold f_page
  rw [MS.si_a, sa_ne h17, f_pcp_a _ _ _ h18, MS.si_a]
theorem page_i {S : MS} {k i n q : Nat} (h0 : q ≠ 0) (h2 : q ≠ 2) : (f_page S k i n).i q = S.i q := by
  unfold f_page
  rw [MS.si_i, if_neg h2, MS.sa_i, f_pcp_i, MS.si_i, if_neg h0]
theorem MH.page {S : MS} {k i n : Nat} (h : MH S) (hn : n ≤ 60) : MH (f_page S k i n) := h.of (h.1.page hn) (fun _ _ hq => page_a (tq_ne hq rfl) (tq_ne hq rfl)) (page_i (by decide) (by decide)) (fun _ => page_a (by decide) (by decide))
theorem tq_bz {q : Nat} (h : tq q = true) : bz q = false := by
  unfold tq at h
  split at h <;> first | rfl | exact nomatch h
theorem tq_pz {q : Nat} (h : tq q = true) : pz q = false := by
  unfold tq at h
  split at h <;> first | rfl | exact nomatch h
theorem send0_a {S : MS} {n q j : Nat} (h0 : bz q = false) (h3 : q ≠ 3) : (f_send0 S n).a q j = S.a q j := by
  unfold f_send0
  rw [bus_bz h0, MS.si_a, f_cp_ne _ _ h3, MS.si_a]
theorem send_a {S : MS} {n q j : Nat} (h0 : bz q = false) (h3 : q ≠ 3) (h1 : q ≠ 1) : (f_send S n).a q j = S.a q j := by
  unfold f_send
  split
  · rw [MS.si_a, f_cp_ne _ _ h1, MS.si_a, send0_a h0 h3]
  · rw [MS.si_a, send0_a h0 h3]
theorem send_i {S : MS} {n q : Nat} (h0 : q ≠ 0) (h2 : q ≠ 2) (h4 : q ≠ 4) (h6 : q ≠ 6) (h7 : q ≠ 7) (h8 : q ≠ 8) (h9 : q ≠ 9) : (f_send S n).i q = S.i q := by
  have e : (f_send0 S n).i q = S.i q := by
    unfold f_send0
    rw [f_bus_i _ _ h6 h7 h8 h9, MS.si_i, if_neg h4, f_cp_i, MS.si_i, if_neg h0]
  unfold f_send
  split
  · rw [MS.si_i, if_neg h2, f_cp_i, MS.si_i, if_neg h2, e]
  · rw [MS.si_i, if_neg h2, e]
theorem MH.send {S : MS} {n : Nat} (h : MH S) : MH (f_send S n) := h.of h.1.send (fun _ _ hq => send_a (tq_bz hq) (tq_ne hq rfl) (tq_ne hq rfl)) (send_i (by decide) (by decide) (by decide) (by decide) (by decide) (by decide) (by decide)) (fun _ => send_a rfl (by decide) (by decide))
theorem MH.search {S : MS} (h : MH S) : MH (f_search S) := by
  obtain ⟨S', e, -⟩ := search_ok h.1.mi.1 h.1.mi.2.1 h.1.ds
  have g := h.1.search
  rw [search_eq e] at g ⊢
  have hz : ∀ q j, pz q = false → S'.a q j = S.a q j := fun q j hq => by
    rw [PRo_pz hq _ _ _ _ e]
    unfold f_sr0
    rw [ff_a _ (pz_ne hq rfl)]
    rfl
  refine h.of g (fun q j hq => hz q j (tq_pz hq)) ?_ (fun j => hz 10 j rfl)
  rw [PRo_pi rfl _ _ _ _ e]
  unfold f_sr0
  rw [ff_i]
  rfl
theorem MH.meter {S : MS} {k : Nat} {ad i mk v d : Int32} (h : MH S) (hk : k < 12) (hg : g_good S (nI k) ad i mk v d) : MH (f_meter S k ad i mk v d) := by
  refine ⟨h.1.meter hk hg, h.2.1.s (fun q j hq => ?_) (meter_i (by decide)), fun j => ?_⟩
  · unfold f_meter
    rw [mp_a _ _ (tq_ne hq rfl), sa_ne (tq_ne hq rfl), sa_ne (tq_ne hq rfl), sa_ne (tq_ne hq rfl), sa_ne (tq_ne hq rfl), mb_a _ _ _ _ _ _ (tq_ne hq rfl), sa_ne (tq_ne hq rfl), sa_ne (tq_ne hq rfl)]
    rfl
  · rw [meter_10]
    split
    · exact .inr rfl
    · exact h.2.2 j
theorem MH.da {S : MS} {q : Nat} (h : MH S) (hq : bk q = true) (n : Nat) : MH (f_da S q n) := ⟨h.1.da hq n, h.2.1.da h.1.mi.2.2 q n, fun k => by rw [da_a S q n rfl (by decide)]; exact h.2.2 k⟩
theorem MH.decode {S : MS} (h : MH S) (n : Nat) : MH (f_decode S n) := (h.s0 0).da rfl n
theorem MH.putS {S : MS} {c : Int32} (h : MH S) (hc : byt c) : MH (f_putS S c) := h.of (h.1.putS hc) (fun _ _ hq => putS_bz (tq_bz hq) (tq_ne hq rfl)) (f_putS_i _ _ (by decide) (by decide) (by decide) (by decide) (by decide)) (fun _ => putS_bz rfl (by decide))
theorem MH.putM {S : MS} (h : MH S) : MH (f_putM S) := h.of h.1.putM (fun _ _ hq => putM_bz (tq_bz hq) (tq_ne hq rfl)) (f_putM_i _ (by decide) (by decide) (by decide) (by decide) (by decide)) (fun _ => putM_bz rfl (by decide))
theorem MH.ls {S : MS} (h : MH S) : MH ((S.si 23 0).si 34 0) := ⟨h.1.ls, ⟨0, rfl, by decide, fun j hj => absurd hj (Nat.not_lt_zero j)⟩, h.2.2⟩
theorem MH.ro {t q : Nat} : ∀ {S : MS}, MH S → MH (f_ro t q S).2 := by
  induction t generalizing q with
  | zero => intro S h; exact h
  | succ t ih =>
    intro S h
    have h1 : MH (f_putS S (f_roC q)) := h.putS (by unfold f_roC; split; exact ⟨123, by decide, rfl⟩; exact ⟨91, by decide, rfl⟩)
    rw [f_ro]
    generalize f_putS S (f_roC q) = S1 at h1 ⊢
    have h2 : MH (f_da S1 5 (f_m S1)) := h1.da rfl _
    generalize f_da S1 5 (f_m S1) = S2 at h2 ⊢
    split
    · split
      · exact h2.ls
      · split
        · exact h2
        · exact ih h2
    · exact h1.ls
theorem MH.readOut {S : MS} {k : Nat} (h : MH S) : MH (f_readOut S k).2 := by
  have g0 : MG (f_rm ((((S.si 0 0).si 23 0).si 34 0).si 36 (-1)) k 8) := by
    obtain ⟨m, m1, m2⟩ := h.1.buf
    obtain ⟨f, f1, f2⟩ := h.1.fnd
    exact ⟨h.1.mi.ro0, h.1.ds.sm ⟨fun _ => (rm_a _ k (by decide) 8).trans rfl, fun _ => (rm_a _ k (by decide) 8).trans rfl⟩, ⟨m, ((f_rm_i _ k 2 8).trans rfl).trans m1, m2⟩, ⟨f, ((f_rm_i _ k 20 8).trans rfl).trans f1, f2⟩⟩
  have h00 : MH (f_rm ((((S.si 0 0).si 23 0).si 34 0).si 36 (-1)) k 8) := ⟨g0, ⟨0, (f_rm_i _ k 23 8).trans rfl, by decide, fun j hj => absurd hj (Nat.not_lt_zero j)⟩, fun j => by rw [rm_a _ k (by decide) 8]; exact h.2.2 j⟩
  have h0 : MH (f_ro0 S k) := h00.putM
  unfold f_readOut
  generalize f_ro0 S k = S1 at h0 ⊢
  split
  · exact MH.ro (h0.putS ⟨64, by decide, rfl⟩).putM
  · exact h0
