/-! What a record's value leaves; the model's record. -/
section Val
variable {S : MS} {r tx cc : Nat}
theorem value_i {q : Nat} (h1 : q ≠ 34) (h2 : q ≠ 40) (h3 : q ≠ 41) (h4 : q ≠ 36) : (f_value S cc).i q = S.i q := by
  have dS : ∀ (Q : MS) a n sg, (f_digS Q a n sg).i q = Q.i q := fun Q a n sg => by unfold f_digS; rw [MS.si_i, if_neg h2, f_dg_i _ _ _ _ _ h3 h4]
  unfold f_value
  split
  · unfold f_valD
    split
    · split
      · split
        · unfold f_v3
          split
          · rw [text_i h1 h2, MS.sw_i, MS.si_i, if_neg h2]
          · split
            · rw [MS.sw_i, dS, MS.si_i, if_neg h2]
            · rw [MS.sw_i, MS.si_i, if_neg h2, MS.si_i, if_neg h2]
        · rw [f_bl_i _ _ _ h3 h4, MS.si_i, if_neg h2]
      · rw [f_bl_i _ _ _ h3 h4, MS.si_i, if_neg h2]
    · exact f_bl_i _ _ _ h3 h4
  · unfold f_valN
    split
    · split
      · rw [MS.sw_i, MS.si_i, if_neg h2]
      · rw [MS.sw_i, dS]
    · exact f_bl_i _ _ _ h3 h4
theorem value_a {q : Nat} (h1 : q ≠ 32) (h2 : q ≠ 33) (h3 : q ≠ 35) (j : Nat) : (f_value S cc).a q j = S.a q j := by
  unfold f_value
  split
  · unfold f_valD
    split
    · split
      · split
        · unfold f_v3
          split
          · rw [text_a h1 h2 h3, MS.sw_a, MS.si_a]
          · split
            · rw [MS.sw_a, f_digS_a, MS.si_a]
            · rfl
        · rw [f_bl_a, MS.si_a]
      · rw [f_bl_a, MS.si_a]
    · exact f_bl_a _ _ _ _ _
  · unfold f_valN
    split
    · split
      · rfl
      · rw [MS.sw_a, f_digS_a]
    · exact f_bl_a _ _ _ _ _
/-- the letters of the new record lie between the old end and the new one -/
def TZ (tx r : Nat) (Q : MS) : Prop := tx ≤ f_tx Q ∧ ∀ j, j < (Q.a 33 r).toNatClampNeg → (Q.a 32 r).toNatClampNeg + j < f_tx Q
theorem TZ.text {a n : Nat} (h34 : S.i 34 = nI tx) (ht : tx + n < 2 ^ 31) : TZ tx r (f_text S r tx a n) := by
  have e : f_tx (f_text S r tx a n) = tx + n := by unfold f_tx f_text; rw [f_txl_34 ((S.sa 32 r (nI tx)).sa 33 r (nI n)) tx a n h34, nI_clamp ht]
  refine ⟨by omega, fun j hj => ?_⟩
  rw [text_33, nI_clamp (by omega)] at hj
  rw [e, text_32, nI_clamp (by omega)]
  omega
theorem TZ.same (h34 : S.i 34 = nI tx) (ht : tx < 2 ^ 31) (h33 : S.a 33 r = 0) {Q : MS} (e34 : Q.i 34 = S.i 34) (e33 : Q.a 33 r = S.a 33 r) : TZ tx r Q := by
  have e : f_tx Q = tx := by unfold f_tx; rw [e34, h34, nI_clamp ht]
  refine ⟨by omega, fun j hj => ?_⟩
  rw [e33, h33] at hj
  exact absurd hj (Nat.not_lt_zero j)
theorem TZ.value (er : f_r S = r) (h34 : S.i 34 = nI tx) (ht : tx ≤ 26000) (h33 : S.a 33 r = 0) (hd : ∀ j, byt (S.a 38 j)) : TZ tx r (f_value S cc) := by
  have et : f_tx S = tx := by unfold f_tx; rw [h34, nI_clamp (by omega)]
  have sm : ∀ Q : MS, Q.i 34 = S.i 34 → Q.a 33 r = S.a 33 r → TZ tx r Q := fun Q e1 e2 => TZ.same h34 (by omega) h33 e1 e2
  have dS : ∀ (Q : MS) a n sg, (f_digS Q a n sg).i 34 = Q.i 34 := fun Q a n sg => by unfold f_digS; rw [MS.si_i, if_neg (by decide), f_dg_i _ _ _ _ _ (by decide) (by decide)]
  unfold f_value
  rw [er, et]
  split
  · obtain ⟨V, hV, eV⟩ := hd (f_at S)
    rw [eV, nI_clamp (by omega)]
    unfold f_valD
    split
    · split
      · split
        · unfold f_v3
          split
          · exact TZ.text h34 (by omega)
          · split
            · exact sm _ (by rw [MS.sw_i, dS]; rfl) (by rw [MS.sw_a, f_digS_a]; rfl)
            · exact sm _ rfl rfl
        · exact sm _ (by rw [f_bl_i _ _ _ (by decide) (by decide)]; rfl) (by rw [f_bl_a]; rfl)
      · exact sm _ (by rw [f_bl_i _ _ _ (by decide) (by decide)]; rfl) (by rw [f_bl_a]; rfl)
    · exact sm _ (f_bl_i _ _ _ (by decide) (by decide)) (f_bl_a _ _ _ _ _)
  · unfold f_valN
    split
    · split
      · exact sm _ rfl rfl
      · exact sm _ (by rw [MS.sw_i, dS]) (by rw [MS.sw_a, f_digS_a])
    · exact sm _ (f_bl_i _ _ _ (by decide) (by decide)) (f_bl_a _ _ _ _ _)
end Val
section R0
variable {S : MS} {r : Nat} {D : Int32}
theorem rec0_i (q : Nat) : (f_rec0 S r D).i q = S.i q := rfl
theorem rec0_25 : (f_rec0 S r D).a 25 r = D &&& 15 := by unfold f_rec0; rw [sa_ne (by decide), sa_ne (by decide), sa_ne (by decide), sa_ne (by decide), MS.sw_a, sa_ne (by decide), MS.sa_a, if_pos ⟨rfl, rfl⟩]
theorem rec0_26 : (f_rec0 S r D).a 26 r = (D >>> ((4 : Int32) &&& 31)) &&& 3 := by unfold f_rec0; rw [sa_ne (by decide), sa_ne (by decide), sa_ne (by decide), sa_ne (by decide), MS.sw_a, MS.sa_a, if_pos ⟨rfl, rfl⟩]
theorem rec0_27 : (f_rec0 S r D).w 27 r = ((D >>> ((6 : Int32) &&& 31)) &&& 1).toInt64 := by unfold f_rec0; rw [MS.sa_w, MS.sa_w, MS.sa_w, MS.sa_w, MS.sw_w, if_pos ⟨rfl, rfl⟩]
theorem rec0_28 : (f_rec0 S r D).a 28 r = 0 := by unfold f_rec0; rw [sa_ne (by decide), sa_ne (by decide), sa_ne (by decide), MS.sa_a, if_pos ⟨rfl, rfl⟩]
theorem rec0_29 : (f_rec0 S r D).a 29 r = 0 := by unfold f_rec0; rw [sa_ne (by decide), sa_ne (by decide), MS.sa_a, if_pos ⟨rfl, rfl⟩]
theorem rec0_33 : (f_rec0 S r D).a 33 r = 0 := by unfold f_rec0; rw [MS.sa_a, if_pos ⟨rfl, rfl⟩]
theorem rec0_38 (j : Nat) : (f_rec0 S r D).a 38 j = S.a 38 j := by unfold f_rec0; rw [sa_ne (by decide), sa_ne (by decide), sa_ne (by decide), sa_ne (by decide), MS.sw_a, sa_ne (by decide), sa_ne (by decide)]
end R0
section Rcd
variable {S : MS} {i m r tx : Nat}
theorem rcd_more (fat : f_at S = i) (fen : f_e S = m) (h : S.a 38 i = 31) : f_rcd S = if i + 1 < m then f_bl ((S.si 40 (nI (i + 1))).si 37 1) 4 (nI (i + 1)) else (S.si 40 (nI (i + 1))).si 37 1 := by
  unfold f_rcd
  dsimp only
  rw [fat, fen, h, if_neg (by decide), if_pos rfl]
theorem rcd_fill (fat : f_at S = i) (h : S.a 38 i = 47) : f_rcd S = S.si 40 (nI (i + 1)) := by
  unfold f_rcd
  dsimp only
  rw [fat, h, if_pos rfl]
theorem rcd_bad (fat : f_at S = i) (h47 : ¬ S.a 38 i = 47) (h31 : ¬ S.a 38 i = 31) (h0 : S.i 41 = 0) (h : S.a 38 i &&& 15 = 8 ∨ (S.a 38 i &&& 15 = 15 ∧ ¬ S.a 38 i = 15)) : ¬ (f_rcd S).i 41 = 0 := by
  unfold f_rcd
  dsimp only
  rw [fat, if_neg h47, if_neg h31, if_pos h]
  exact bl_no h0 (by decide)
theorem rcd_full (fat : f_at S = i) (er : f_r S = 100) (h47 : ¬ S.a 38 i = 47) (h31 : ¬ S.a 38 i = 31) (h0 : S.i 41 = 0) : ¬ (f_rcd S).i 41 = 0 := by
  by_cases h : S.a 38 i &&& 15 = 8 ∨ (S.a 38 i &&& 15 = 15 ∧ ¬ S.a 38 i = 15)
  · exact rcd_bad fat h47 h31 h0 h
  unfold f_rcd
  dsimp only
  rw [fat, if_neg h47, if_neg h31, if_neg h, if_pos er]
  exact bl_no h0 (by decide)
theorem rcd_own (fat : f_at S = i) (fen : f_e S = m) (er : f_r S = r) (r1 : r < 100) (h15 : S.a 38 i = 15) : f_rcd S = f_own (f_rec0 (S.si 40 (nI (i + 1))) r 15) r (f_tx S) (i + 1) m := by
  unfold f_rcd
  dsimp only
  rw [fat, fen, er, h15, if_neg (by decide), if_neg (by decide), if_neg (by decide), if_neg (by omega), if_pos (by decide)]
theorem rcd_ext (fat : f_at S = i) (er : f_r S = r) (r1 : r < 100) (h47 : ¬ S.a 38 i = 47) (h31 : ¬ S.a 38 i = 31) (h8 : ¬ S.a 38 i &&& 15 = 8) (h15 : ¬ S.a 38 i &&& 15 = 15) : f_rcd S = f_ends (f_vl r 13 (f_dl r 12 (f_rec0 (S.si 40 (nI (i + 1))) r (S.a 38 i)) (S.a 38 i) 0) 128 0) (S.a 38 i &&& 15).toNatClampNeg r := by
  unfold f_rcd
  dsimp only
  rw [fat, er, if_neg h47, if_neg h31, if_neg (fun y => y.elim h8 (fun z => h15 z.1)), if_neg (by omega), if_neg h15]
/-- a record whose parts fail fails -/
theorem rcd_no (fat : f_at S = i) (er : f_r S = r) (r1 : r ≤ 100) (h0 : S.i 41 = 0) (h47 : ¬ S.a 38 i = 47) (h31 : ¬ S.a 38 i = 31) (h15 : ¬ S.a 38 i &&& 15 = 15) (h : S.a 38 i &&& 15 = 8 ∨ ¬ (f_ends (f_vl r 13 (f_dl r 12 (f_rec0 (S.si 40 (nI (i + 1))) r (S.a 38 i)) (S.a 38 i) 0) 128 0) (S.a 38 i &&& 15).toNatClampNeg r).i 41 = 0) : ¬ (f_rcd S).i 41 = 0 := by
  by_cases h8 : S.a 38 i &&& 15 = 8
  · exact rcd_bad fat h47 h31 h0 (Or.inl h8)
  by_cases r2 : r = 100
  · exact rcd_full fat (er.trans r2) h47 h31 h0
  rw [rcd_ext fat er (by omega) h47 h31 h8 h15]
  exact h.resolve_left h8
end Rcd
theorem byt15 {x : Int32} (h : byt x) : ∃ k, k ≤ 15 ∧ x &&& 15 = nI k := by
  obtain ⟨b, h1, rfl⟩ := h
  have key : ∀ b, b < 256 → ∃ k, k ≤ 15 ∧ nI b &&& 15 = nI k := fun b hb => ⟨b % 16, by omega, by
    have : ∀ b, b < 256 → nI b &&& 15 = nI (b % 16) := by decide +kernel
    exact this b hb⟩
  exact key b h1
