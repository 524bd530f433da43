/-! MeterBusModel: the invariant of its list, and reading out over it. -/
def LR (S : MS) : Prop := ∃ r tx, S.i 23 = nI r ∧ r ≤ 100 ∧ S.i 34 = nI tx ∧ tx ≤ 240 * r
theorem LR.same {S S' : MS} (h : LR S) (h23 : S'.i 23 = S.i 23) (h34 : S'.i 34 = S.i 34) : LR S' := by
  obtain ⟨r, tx, a, b, c, d⟩ := h
  exact ⟨r, tx, h23.trans a, b, h34.trans c, d⟩
theorem f_bS_i (S : MS) (n i : Nat) (lo hi : Int32) {q : Nat} (h41 : q ≠ 41) (h36 : q ≠ 36) : (f_bS S n i lo hi).i q = S.i q := by
  unfold f_bS
  split
  · rfl
  · exact f_bl_i _ _ _ h41 h36
theorem f_ids_i (S : MS) (L : Nat) {q : Nat} (h41 : q ≠ 41) (h36 : q ≠ 36) (h39 : q ≠ 39) : ∀ (t k : Nat), (f_ids S L t k).2.i q = S.i q
  | 0, _ => by show (S.si 39 _).i q = S.i q; rw [MS.si_i, if_neg h39]
  | t + 1, k => by
    unfold f_ids
    split
    · exact f_bl_i _ _ _ h41 h36
    · exact f_ids_i S L h41 h36 h39 t (k + 1)
theorem f_fr_i (S : MS) (n : Nat) {q : Nat} (h41 : q ≠ 41) (h36 : q ≠ 36) (h39 : q ≠ 39) : (f_fr S n).2.i q = S.i q := by
  unfold f_fr f_fr2 f_fr3
  split
  · split
    · split
      · split
        · split
          · split
            · split
              · split
                · split
                  · exact f_ids_i S _ h41 h36 h39 _ _
                  · exact f_bl_i _ _ _ h41 h36
                · exact f_bS_i _ _ _ _ _ h41 h36
              · exact f_bS_i _ _ _ _ _ h41 h36
            · exact f_bS_i _ _ _ _ _ h41 h36
          · exact f_bl_i _ _ _ h41 h36
        · exact f_bS_i _ _ _ _ _ h41 h36
      · exact f_bS_i _ _ _ _ _ h41 h36
    · exact f_bS_i _ _ _ _ _ h41 h36
  · exact f_bS_i _ _ _ _ _ h41 h36
theorem GR.rl {e : Nat} (he : e ≤ 256) : ∀ (t : Nat) (S : MS) (r tx a : Nat), GR S e r tx a → 19 ≤ a → r ≤ 100 → tx ≤ 240 * r → LR (f_rl t S)
  | 0, S, r, tx, a, g, _, hr, ht => ⟨r, tx, g.2.2.2.1, hr, g.2.2.2.2, ht⟩
  | t + 1, S, r, tx, a, g, ha, hr, ht => by
    rw [f_rl]
    split
    · rename_i h
      obtain ⟨e1, e2, -⟩ := g.at (by omega)
      rw [e1, e2] at h
      obtain ⟨⟨a1, r1, tx1, g1, g2, g3, g4⟩, -⟩ := RR.rcd g h.1 he ha h.2 hr ht
      exact GR.rl he t _ r1 tx1 a1 g1 (by omega) g3 g4
    · exact ⟨r, tx, g.2.2.2.1, hr, g.2.2.2.2, ht⟩
theorem LR.da {S : MS} (h : LR S) (q n : Nat) : LR (f_da S q n) := by
  have h0 : LR (f_da0 S q n) := h.same (by unfold f_da0; rw [f_cp_i]; rfl) (by unfold f_da0; rw [f_cp_i]; rfl)
  have h1 : LR (f_da1 S q n) := by
    unfold f_da1
    generalize f_da0 S q n = S1 at h0 ⊢
    split
    · rename_i g
      obtain ⟨L, l1, l2, l3, l4⟩ := f_fr_t g
      rw [l4]
      obtain ⟨r, tx, a1, a2, a3, a4⟩ := h0
      exact GR.rl (e := L + 4) (by omega) 300 _ r tx 19 ⟨rfl, rfl, by omega, a1, a3⟩ (by decide) a2 a4
    · exact h0.same (f_fr_i _ _ (by decide) (by decide) (by decide)) (f_fr_i _ _ (by decide) (by decide) (by decide))
  unfold f_da
  generalize f_da1 S q n = S1 at h1 ⊢
  split
  · exact h.same rfl rfl
  · exact h1
/-- what holds of the model at all times, for the bus and the list -/
def MI (S : MS) : Prop := WFb S ∧ WFa S ∧ LR S
theorem MI.bus {S : MS} (h : MI S) (n : Nat) : MI (f_bus S n) := ⟨h.1.bus h.2.1 n, h.2.1.bus n, h.2.2.same (f_bus_i _ _ (by decide) (by decide) (by decide) (by decide)) (f_bus_i _ _ (by decide) (by decide) (by decide) (by decide))⟩
theorem MI.putS {S : MS} {c : Int32} (h : MI S) (hc : byt c) : MI (f_putS S c) := ⟨h.1.putS h.2.1 hc, h.2.1.putS, h.2.2.same (f_putS_i _ _ (by decide) (by decide) (by decide) (by decide) (by decide)) (f_putS_i _ _ (by decide) (by decide) (by decide) (by decide) (by decide))⟩
theorem MI.putM {S : MS} (h : MI S) : MI (f_putM S) := ⟨h.1.putM h.2.1, h.2.1.putM, h.2.2.same (f_putM_i _ (by decide) (by decide) (by decide) (by decide) (by decide)) (f_putM_i _ (by decide) (by decide) (by decide) (by decide) (by decide))⟩
theorem MI.ir : IR MI := ⟨fun S h => ⟨h.2.1, h.1.d, h.2.2⟩, fun S c h hc => h.putS hc, fun S h => h.putM, fun S n h _ => ⟨h.1.da rfl n, h.2.1.da n, h.2.2.da 5 n⟩, fun S j h => h.1 5 j rfl⟩
theorem WFb.rm {S : MS} {k : Nat} (h : WFb S) : ∀ n, WFb (f_rm S k n)
  | 0 => h
  | n + 1 => (h.rm n).sa (fun _ => h 21 (8 * k + n) rfl)
theorem WFa.rm {S : MS} {k : Nat} (h : WFa S) : ∀ n, WFa (f_rm S k n)
  | 0 => h
  | n + 1 => (h.rm n).sa (by decide) (by decide) (by decide)
theorem f_rm_i (S : MS) (k q : Nat) : ∀ n, (f_rm S k n).i q = S.i q
  | 0 => rfl
  | n + 1 => by rw [f_rm, MS.sa_i, f_rm_i S k q n]
theorem MI.ro {t q : Nat} : ∀ {S : MS}, MI S → MI (f_ro t q S).2 := by
  induction t generalizing q with
  | zero => intro S h; exact h
  | succ t ih =>
    intro S h
    have h1 : MI (f_putS S (f_roC q)) := h.putS (by unfold f_roC; split; exact ⟨123, by decide, rfl⟩; exact ⟨91, by decide, rfl⟩)
    have hz : ∀ Q : MS, MI Q → MI ((Q.si 23 0).si 34 0) := fun Q g => ⟨g.1, g.2.1.si.si, ⟨0, 0, rfl, by decide, rfl, by decide⟩⟩
    rw [f_ro]
    generalize f_putS S (f_roC q) = S1 at h1 ⊢
    have h2 : MI (f_da S1 5 (f_m S1)) := ⟨h1.1.da rfl _, h1.2.1.da _, h1.2.2.da 5 _⟩
    generalize f_da S1 5 (f_m S1) = S2 at h2 ⊢
    split
    · split
      · exact hz _ h2
      · split
        · exact h2
        · exact ih h2
    · exact hz _ h1
section RO
variable {w : Wd} {M : MW} {S : MS}
theorem MI.ro0 {k : Nat} (h : MI S) : MI (f_rm ((((S.si 0 0).si 23 0).si 34 0).si 36 (-1)) k 8) := ⟨WFb.rm (S := (((S.si 0 0).si 23 0).si 34 0).si 36 (-1)) h.1 8, WFa.rm h.2.1.si.si.si.si 8, ⟨0, 0, (f_rm_i _ _ _ _).trans rfl, by decide, (f_rm_i _ _ _ _).trans rfl, by decide⟩⟩
theorem MI.readOut {k : Nat} (h : MI S) : MI (f_readOut S k).2 := by
  have h0 : MI (f_ro0 S k) := h.ro0.putM
  unfold f_readOut
  generalize f_ro0 S k = S1 at h0 ⊢
  split
  · exact MI.ro (h0.putS ⟨64, by decide, rfl⟩).putM
  · exact h0
theorem s_readOut (hW : Wm w M) (h : MI S) (k f : Nat) (hf0 : S.i 20 = nI f) (hk : k < f) (hf1 : f ≤ 100) : TF w M yX7_readOut cX7_readOut 4 (some .int) 5 [.int (nI k)] S (some (.int (f_readOut S k).1)) (f_readOut S k).2 := s_readOut_t hW MI.ir k f hf0 hk hf1 h.ro0
end RO
