/-! MeterBusModel: what decoding leaves alone. -/
def lk (q : Nat) : Bool := match q with
  | 25 => true | 26 => true | 28 => true | 29 => true | 30 => true | 31 => true | 32 => true | 33 => true | 35 => true | _ => false
/-- only the list's arrays change; a text's bytes come from the data -/
def KK (S S' : MS) : Prop := (∀ q j, lk q = false → S'.a q j = S.a q j) ∧ ∀ j, S'.a 35 j = S.a 35 j ∨ ∃ i, S'.a 35 j = S.a 38 i
theorem KK.rf (S : MS) : KK S S := ⟨fun _ _ _ => rfl, fun _ => Or.inl rfl⟩
theorem KK.tr {S S1 S2 : MS} (h : KK S S1) (g : KK S1 S2) : KK S S2 := by
  refine ⟨fun q j hq => (g.1 q j hq).trans (h.1 q j hq), fun j => ?_⟩
  rcases g.2 j with e | ⟨i, e⟩
  · rw [e]; exact h.2 j
  · right; exact ⟨i, by rw [e, h.1 38 i rfl]⟩
theorem KK.si (S : MS) (k : Nat) (v : Int32) : KK S (S.si k v) := ⟨fun _ _ _ => rfl, fun _ => Or.inl rfl⟩
theorem KK.sw (S : MS) (k j : Nat) (v : Int64) : KK S (S.sw k j v) := ⟨fun _ _ _ => rfl, fun _ => Or.inl rfl⟩
theorem KK.sa (S : MS) {k : Nat} (j : Nat) (v : Int32) (hk : lk k = true) (h35 : k ≠ 35) : KK S (S.sa k j v) :=
  ⟨fun q t hq => sa_ne (fun e => by rw [e, hk] at hq; exact nomatch hq), fun t => Or.inl (sa_ne (Ne.symm h35))⟩
theorem KK.bl (S : MS) (x y : Int32) : KK S (f_bl S x y) := ⟨fun q j _ => f_bl_a _ _ _ _ _, fun j => Or.inl (f_bl_a _ _ _ _ _)⟩
theorem KK.txl (S : MS) (tx a : Nat) : ∀ k, KK S (f_txl S tx a k)
  | 0 => KK.rf S
  | k + 1 => by
    refine (KK.txl S tx a k).tr ?_
    rw [f_txl]
    refine KK.tr ?_ ((KK.si _ _ _).tr (KK.si _ _ _))
    refine ⟨fun q t hq => sa_ne (fun e => by rw [e] at hq; exact nomatch hq), fun t => ?_⟩
    rw [MS.sa_a]
    split
    · right; exact ⟨a + k, (f_txl_38 S tx a k (a + k)).symm⟩
    · exact Or.inl rfl
theorem KK.text (S : MS) (r tx a n : Nat) : KK S (f_text S r tx a n) := ((KK.sa S r _ rfl (by decide)).tr (KK.sa _ r _ rfl (by decide))).tr (KK.txl _ _ _ _)
theorem KK.dg (S : MS) (a m : Nat) (mi : Bool) (k : Nat) : KK S (f_dg S a m mi k) := ⟨fun q j _ => f_dg_a _ _ _ _ _ _ _, fun j => Or.inl (f_dg_a _ _ _ _ _ _ _)⟩
theorem KK.digS (S : MS) (a m : Nat) (sg : Bool) : KK S (f_digS S a m sg) := (KK.dg S a m _ m).tr (KK.si _ _ _)
theorem KK.nx (S : MS) : KK S (f_nx S).2 := ⟨fun q j _ => f_nx_a _ _ _, fun j => Or.inl (f_nx_a _ _ _)⟩
theorem KK.d2 (S : MS) (i : Nat) : KK S (f_d2 S i) := ⟨fun q j _ => f_d2_a _ _ _ _, fun j => Or.inl (f_d2_a _ _ _ _)⟩
theorem KK.v2 (S : MS) (i : Nat) : KK S (f_v2 S i) := ⟨fun q j _ => f_v2_a _ _ _ _, fun j => Or.inl (f_v2_a _ _ _ _)⟩
theorem KK.d3 (S : MS) (r : Nat) (b : Int32) (i : Nat) : KK S (f_d3 S r b i) := by
  unfold f_d3
  split
  · unfold f_df1
    exact ((KK.sw S _ _ _).tr (KK.sa _ r _ rfl (by decide))).tr (KK.sa _ r _ rfl (by decide))
  · exact KK.rf S
theorem KK.v4 (S : MS) (r : Nat) (b : Int32) (i : Nat) : KK S (f_v4 S r b i) := by
  unfold f_v4
  split
  · exact (KK.sa S _ _ rfl (by decide)).tr (KK.sa _ r _ rfl (by decide))
  · exact KK.rf S
theorem KK.dl (r : Nat) : ∀ (t : Nat) (S : MS) (b : Int32) (i : Nat), KK S (f_dl r t S b i)
  | 0, S, _, _ => KK.rf S
  | t + 1, S, b, i => by
    rw [f_dl]
    split
    · exact (((KK.nx S).tr (KK.d2 _ i)).tr (KK.d3 _ r _ i)).tr (KK.dl r t _ _ _)
    · exact KK.rf S
theorem KK.vl (r : Nat) : ∀ (t : Nat) (S : MS) (b : Int32) (i : Nat), KK S (f_vl r t S b i)
  | 0, S, _, _ => KK.rf S
  | t + 1, S, b, i => by
    rw [f_vl]
    split
    · exact (((KK.nx S).tr (KK.v2 _ i)).tr (KK.v4 _ r _ i)).tr (KK.vl r t _ _ _)
    · exact KK.rf S
theorem KK.rec0 (S : MS) (r : Nat) (D : Int32) : KK S (f_rec0 S r D) := by
  unfold f_rec0
  exact ((((((KK.sa S r _ rfl (by decide)).tr (KK.sa _ r _ rfl (by decide))).tr (KK.sw _ _ _ _)).tr (KK.sa _ r _ rfl (by decide))).tr (KK.sa _ r _ rfl (by decide))).tr (KK.sa _ r _ rfl (by decide))).tr (KK.sa _ r _ rfl (by decide))
theorem KK.valN (S : MS) (a e r cc n : Nat) : KK S (f_valN S a e r cc n) := by
  unfold f_valN
  split
  · split
    · exact (KK.si S _ _).tr (KK.sw _ _ _ _)
    · exact (KK.digS S _ _ _).tr (KK.sw _ _ _ _)
  · exact KK.bl S _ _
theorem KK.valD (S : MS) (a e r tx V : Nat) : KK S (f_valD S a e r tx V) := by
  unfold f_valD
  split
  · refine (KK.si S 40 (nI (a + 1))).tr ?_
    split
    · split
      · unfold f_v3
        split
        · exact (KK.sw _ _ _ _).tr (KK.text _ _ _ _ _)
        · split
          · exact (KK.digS _ _ _ _).tr (KK.sw _ _ _ _)
          · exact (KK.si _ _ _).tr (KK.sw _ _ _ _)
      · exact KK.bl _ _ _
    · exact KK.bl _ _ _
  · exact KK.bl S _ _
theorem KK.value (S : MS) (cc : Nat) : KK S (f_value S cc) := by
  unfold f_value
  split
  · exact KK.valD S _ _ _ _ _
  · exact KK.valN S _ _ _ _ _
theorem KK.ends (S : MS) (cc r : Nat) : KK S (f_ends S cc r) := by
  unfold f_ends
  split
  · exact (KK.value S cc).tr (KK.si _ _ _)
  · exact KK.rf S
theorem KK.own (S : MS) (r tx a e : Nat) : KK S (f_own S r tx a e) := by
  unfold f_own
  exact ((KK.sw S _ _ _).tr (KK.text _ _ _ _ _)).tr (KK.si _ _ _)
theorem KK.ext (S : MS) (r cc : Nat) (D : Int32) : KK S (f_ends (f_vl r 13 (f_dl r 12 S D 0) 128 0) cc r) := ((KK.dl r 12 S D 0).tr (KK.vl r 13 _ 128 0)).tr (KK.ends _ cc r)
theorem KK.rcd (S : MS) : KK S (f_rcd S) := by
  unfold f_rcd
  dsimp only
  split
  · exact KK.si S _ _
  · split
    · split
      · exact ((KK.si S _ _).tr (KK.si _ _ _)).tr (KK.bl _ _ _)
      · exact (KK.si S _ _).tr (KK.si _ _ _)
    · split
      · exact (KK.si S _ _).tr (KK.bl _ _ _)
      · split
        · exact (KK.si S _ _).tr (KK.bl _ _ _)
        · split
          · exact ((KK.si S _ _).tr (KK.rec0 _ _ _)).tr (KK.own _ _ _ _ _)
          · exact ((KK.si S _ _).tr (KK.rec0 _ _ _)).tr (KK.ext _ _ _ _)
theorem KK.rl : ∀ (t : Nat) (S : MS), KK S (f_rl t S)
  | 0, S => KK.rf S
  | t + 1, S => by
    rw [f_rl]
    split
    · exact (KK.rcd S).tr (KK.rl t _)
    · exact KK.rf S
theorem f_bS_KK (S : MS) (n i : Nat) (lo hi : Int32) : KK S (f_bS S n i lo hi) := by
  unfold f_bS
  split
  · exact KK.rf S
  · exact KK.bl S _ _
theorem KK.ids (S : MS) (L : Nat) : ∀ (t k : Nat), KK S (f_ids S L t k).2
  | 0, _ => KK.si S _ _
  | t + 1, k => by
    unfold f_ids
    split
    · exact KK.bl S _ _
    · exact KK.ids S L t (k + 1)
theorem KK.fr3 (S : MS) : KK S (f_fr3 S).2 := by
  unfold f_fr3
  split
  · exact KK.ids S _ _ _
  · exact KK.bl S _ _
theorem KK.fr2 (S : MS) (n : Nat) : KK S (f_fr2 S n).2 := by
  unfold f_fr2
  split
  · split
    · split
      · split
        · exact KK.fr3 S
        · exact f_bS_KK S _ _ _ _
      · exact f_bS_KK S _ _ _ _
    · exact f_bS_KK S _ _ _ _
  · exact KK.bl S _ _
theorem KK.fr (S : MS) (n : Nat) : KK S (f_fr S n).2 := by
  unfold f_fr
  split
  · split
    · split
      · split
        · exact KK.fr2 S n
        · exact f_bS_KK S _ _ _ _
      · exact f_bS_KK S _ _ _ _
    · exact f_bS_KK S _ _ _ _
  · exact f_bS_KK S _ _ _ _
theorem KK.da1 (S : MS) (q n : Nat) : KK (f_da0 S q n) (f_da1 S q n) := by
  unfold f_da1
  generalize f_da0 S q n = S1
  split
  · exact ((KK.fr S1 n).tr (KK.si _ _ _)).tr (KK.rl 300 _)
  · exact KK.fr S1 n
theorem KK.da (S : MS) (q n : Nat) : KK (f_da0 S q n) (f_da S q n) := by
  have h := KK.da1 S q n
  unfold f_da
  generalize f_da1 S q n = S1 at h ⊢
  split
  · exact (h.tr (KK.si _ _ _)).tr (KK.si _ _ _)
  · exact h
theorem WFb.kk {S S' : MS} (h : WFb S) (g : KK S S') : WFb S' := by
  intro k j hk
  by_cases e : lk k = false
  · rw [g.1 k j e]; exact h k j hk
  · have : k = 35 := by
      unfold bk at hk
      split at hk <;> first | exact absurd rfl e | rfl | exact nomatch hk
    subst this
    rcases g.2 j with e1 | ⟨i, e1⟩
    · rw [e1]; exact h 35 j rfl
    · rw [e1]; exact h 38 i rfl
theorem WFa.kk {S S' : MS} (h : WFa S) (g : KK S S') : WFa S' := fun j hj => (h j hj).of (g.1 15 j rfl) (g.1 14 j rfl) (fun q => g.1 17 q rfl)
theorem WFb.da {S : MS} {q : Nat} (h : WFb S) (hq : bk q = true) (n : Nat) : WFb (f_da S q n) := (WFb.cp (S := ((S.si 41 0).si 36 (-1)).si 37 0) h hq n).kk (KK.da S q n)
theorem WFa.da {S : MS} {q : Nat} (h : WFa S) (n : Nat) : WFa (f_da S q n) := (WFa.cp (S := ((S.si 41 0).si 36 (-1)).si 37 0) h.si.si.si (by decide) (by decide) (by decide) n).kk (KK.da S q n)
