/-! Decoding leaves the other numbers alone; what a list of records keeps. -/
def di (q : Nat) : Bool := match q with
  | 23 => true | 34 => true | 36 => true | 37 => true | 39 => true | 40 => true | 41 => true | _ => false
theorem di_ne {q k : Nat} (h : di q = false) (hk : di k = true) : q ≠ k := fun e => by rw [e, hk] at h; exact nomatch h
def KI (S S' : MS) : Prop := ∀ q, di q = false → S'.i q = S.i q
theorem KI.rf (S : MS) : KI S S := fun _ _ => rfl
theorem KI.tr {S S1 S2 : MS} (h : KI S S1) (g : KI S1 S2) : KI S S2 := fun q hq => (g q hq).trans (h q hq)
theorem KI.si (S : MS) (k : Nat) (v : Int32) (hk : di k = true := by rfl) : KI S (S.si k v) := fun q hq => by rw [MS.si_i, if_neg (di_ne hq hk)]
theorem KI.sw (S : MS) (k j : Nat) (v : Int64) : KI S (S.sw k j v) := fun _ _ => rfl
theorem KI.sa (S : MS) {k : Nat} (j : Nat) (v : Int32) (_ : lk k = true) (_ : k ≠ 35) : KI S (S.sa k j v) := fun _ _ => rfl
theorem KI.bl (S : MS) (x y : Int32) : KI S (f_bl S x y) := fun _ hq => f_bl_i _ _ _ (di_ne hq rfl) (di_ne hq rfl)
theorem KI.txl (S : MS) (tx a : Nat) (k : Nat) : KI S (f_txl S tx a k) := fun _ hq => f_txl_i _ _ _ (di_ne hq rfl) (di_ne hq rfl) k
theorem KI.text (S : MS) (r tx a n : Nat) : KI S (f_text S r tx a n) := ((KI.sa S r _ rfl (by decide)).tr (KI.sa _ r _ rfl (by decide))).tr (KI.txl _ _ _ _)
theorem KI.dg (S : MS) (a m : Nat) (mi : Bool) (k : Nat) : KI S (f_dg S a m mi k) := fun _ hq => f_dg_i _ _ _ _ _ (di_ne hq rfl) (di_ne hq rfl)
theorem KI.digS (S : MS) (a m : Nat) (sg : Bool) : KI S (f_digS S a m sg) := (KI.dg S a m _ m).tr (KI.si _ _ _)
theorem KI.nx (S : MS) : KI S (f_nx S).2 := fun _ hq => f_nx_i _ (di_ne hq rfl) (di_ne hq rfl) (di_ne hq rfl)
theorem KI.d2 (S : MS) (i : Nat) : KI S (f_d2 S i) := fun _ hq => f_d2_i _ _ (di_ne hq rfl) (di_ne hq rfl)
theorem KI.v2 (S : MS) (i : Nat) : KI S (f_v2 S i) := fun _ hq => f_v2_i _ _ (di_ne hq rfl) (di_ne hq rfl)
theorem KI.d3 (S : MS) (r : Nat) (b : Int32) (i : Nat) : KI S (f_d3 S r b i) := by
  unfold f_d3
  split
  · unfold f_df1
    exact ((KI.sw S _ _ _).tr (KI.sa _ r _ rfl (by decide))).tr (KI.sa _ r _ rfl (by decide))
  · exact KI.rf S
theorem KI.v4 (S : MS) (r : Nat) (b : Int32) (i : Nat) : KI S (f_v4 S r b i) := by
  unfold f_v4
  split
  · exact (KI.sa S _ _ rfl (by decide)).tr (KI.sa _ r _ rfl (by decide))
  · exact KI.rf S
theorem KI.dl (r : Nat) : ∀ (t : Nat) (S : MS) (b : Int32) (i : Nat), KI S (f_dl r t S b i)
  | 0, S, _, _ => KI.rf S
  | t + 1, S, b, i => by
    rw [f_dl]
    split
    · exact (((KI.nx S).tr (KI.d2 _ i)).tr (KI.d3 _ r _ i)).tr (KI.dl r t _ _ _)
    · exact KI.rf S
theorem KI.vl (r : Nat) : ∀ (t : Nat) (S : MS) (b : Int32) (i : Nat), KI S (f_vl r t S b i)
  | 0, S, _, _ => KI.rf S
  | t + 1, S, b, i => by
    rw [f_vl]
    split
    · exact (((KI.nx S).tr (KI.v2 _ i)).tr (KI.v4 _ r _ i)).tr (KI.vl r t _ _ _)
    · exact KI.rf S
theorem KI.rec0 (S : MS) (r : Nat) (D : Int32) : KI S (f_rec0 S r D) := by
  unfold f_rec0
  exact ((((((KI.sa S r _ rfl (by decide)).tr (KI.sa _ r _ rfl (by decide))).tr (KI.sw _ _ _ _)).tr (KI.sa _ r _ rfl (by decide))).tr (KI.sa _ r _ rfl (by decide))).tr (KI.sa _ r _ rfl (by decide))).tr (KI.sa _ r _ rfl (by decide))
theorem KI.valN (S : MS) (a e r cc n : Nat) : KI S (f_valN S a e r cc n) := by
  unfold f_valN
  split
  · split
    · exact (KI.si S _ _).tr (KI.sw _ _ _ _)
    · exact (KI.digS S _ _ _).tr (KI.sw _ _ _ _)
  · exact KI.bl S _ _
theorem KI.valD (S : MS) (a e r tx V : Nat) : KI S (f_valD S a e r tx V) := by
  unfold f_valD
  split
  · refine (KI.si S 40 (nI (a + 1))).tr ?_
    split
    · split
      · unfold f_v3
        split
        · exact (KI.sw _ _ _ _).tr (KI.text _ _ _ _ _)
        · split
          · exact (KI.digS _ _ _ _).tr (KI.sw _ _ _ _)
          · exact (KI.si _ _ _).tr (KI.sw _ _ _ _)
      · exact KI.bl _ _ _
    · exact KI.bl _ _ _
  · exact KI.bl S _ _
theorem KI.value (S : MS) (cc : Nat) : KI S (f_value S cc) := by
  unfold f_value
  split
  · exact KI.valD S _ _ _ _ _
  · exact KI.valN S _ _ _ _ _
theorem KI.ends (S : MS) (cc r : Nat) : KI S (f_ends S cc r) := by
  unfold f_ends
  split
  · exact (KI.value S cc).tr (KI.si _ _ _)
  · exact KI.rf S
theorem KI.own (S : MS) (r tx a e : Nat) : KI S (f_own S r tx a e) := by
  unfold f_own
  exact ((KI.sw S _ _ _).tr (KI.text _ _ _ _ _)).tr (KI.si _ _ _)
theorem KI.ext (S : MS) (r cc : Nat) (D : Int32) : KI S (f_ends (f_vl r 13 (f_dl r 12 S D 0) 128 0) cc r) := ((KI.dl r 12 S D 0).tr (KI.vl r 13 _ 128 0)).tr (KI.ends _ cc r)
theorem KI.rcd (S : MS) : KI S (f_rcd S) := by
  unfold f_rcd
  dsimp only
  split
  · exact KI.si S _ _
  · split
    · split
      · exact ((KI.si S _ _).tr (KI.si _ _ _)).tr (KI.bl _ _ _)
      · exact (KI.si S _ _).tr (KI.si _ _ _)
    · split
      · exact (KI.si S _ _).tr (KI.bl _ _ _)
      · split
        · exact (KI.si S _ _).tr (KI.bl _ _ _)
        · split
          · exact ((KI.si S _ _).tr (KI.rec0 _ _ _)).tr (KI.own _ _ _ _ _)
          · exact ((KI.si S _ _).tr (KI.rec0 _ _ _)).tr (KI.ext _ _ _ _)
theorem KI.rl : ∀ (t : Nat) (S : MS), KI S (f_rl t S)
  | 0, S => KI.rf S
  | t + 1, S => by
    rw [f_rl]
    split
    · exact (KI.rcd S).tr (KI.rl t _)
    · exact KI.rf S
theorem f_bS_KI (S : MS) (n i : Nat) (lo hi : Int32) : KI S (f_bS S n i lo hi) := by
  unfold f_bS
  split
  · exact KI.rf S
  · exact KI.bl S _ _
theorem KI.ids (S : MS) (L : Nat) : ∀ (t k : Nat), KI S (f_ids S L t k).2
  | 0, _ => KI.si S _ _
  | t + 1, k => by
    unfold f_ids
    split
    · exact KI.bl S _ _
    · exact KI.ids S L t (k + 1)
theorem KI.fr3 (S : MS) : KI S (f_fr3 S).2 := by
  unfold f_fr3
  split
  · exact KI.ids S _ _ _
  · exact KI.bl S _ _
theorem KI.fr2 (S : MS) (n : Nat) : KI S (f_fr2 S n).2 := by
  unfold f_fr2
  split
  · split
    · split
      · split
        · exact KI.fr3 S
        · exact f_bS_KI S _ _ _ _
      · exact f_bS_KI S _ _ _ _
    · exact f_bS_KI S _ _ _ _
  · exact KI.bl S _ _
theorem KI.fr (S : MS) (n : Nat) : KI S (f_fr S n).2 := by
  unfold f_fr
  split
  · split
    · split
      · split
        · exact KI.fr2 S n
        · exact f_bS_KI S _ _ _ _
      · exact f_bS_KI S _ _ _ _
    · exact f_bS_KI S _ _ _ _
  · exact f_bS_KI S _ _ _ _
theorem KI.da1 (S : MS) (q n : Nat) : KI (f_da0 S q n) (f_da1 S q n) := by
  unfold f_da1
  generalize f_da0 S q n = S1
  split
  · exact ((KI.fr S1 n).tr (KI.si _ _ _)).tr (KI.rl 300 _)
  · exact KI.fr S1 n
theorem KI.da (S : MS) (q n : Nat) : KI (f_da0 S q n) (f_da S q n) := by
  have h := KI.da1 S q n
  unfold f_da
  generalize f_da1 S q n = S1 at h ⊢
  split
  · exact (h.tr (KI.si _ _ _)).tr (KI.si _ _ _)
  · exact h
theorem KI.da0 (S : MS) (q n : Nat) : KI S (f_da0 S q n) := fun k hk => by
  unfold f_da0
  rw [f_cp_i, MS.si_i, if_neg (di_ne hk rfl), MS.si_i, if_neg (di_ne hk rfl), MS.si_i, if_neg (di_ne hk rfl)]
theorem da_i (S : MS) (q n : Nat) {k : Nat} (hk : di k = false) : (f_da S q n).i k = S.i k := ((KI.da0 S q n).tr (KI.da S q n)) k hk
theorem da_a (S : MS) (q n : Nat) {k j : Nat} (hk : lk k = false) (h38 : k ≠ 38) : (f_da S q n).a k j = S.a k j := by
  rw [(KK.da S q n).1 k j hk]
  unfold f_da0
  rw [f_cp_ne _ _ h38]
  rfl
theorem MG.da {S : MS} {q : Nat} (h : MG S) (hq : bk q = true) (n : Nat) : MG (f_da S q n) := by
  obtain ⟨m, m1, m2⟩ := h.buf
  obtain ⟨f, f1, f2⟩ := h.fnd
  exact ⟨⟨h.mi.1.da hq n, h.mi.2.1.da n, h.mi.2.2.da q n⟩, h.ds.sm ⟨fun _ => da_a S q n rfl (by decide), fun _ => da_a S q n rfl (by decide)⟩, ⟨m, (da_i S q n rfl).trans m1, m2⟩, ⟨f, (da_i S q n rfl).trans f1, f2⟩⟩
theorem MG.decode {S : MS} (h : MG S) (n : Nat) : MG (f_decode S n) := (h.s0 0).da rfl n
theorem MG.putS {S : MS} {c : Int32} (h : MG S) (hc : byt c) : MG (f_putS S c) := by
  have e : ∀ q, q ≠ 4 → q ≠ 6 → q ≠ 7 → q ≠ 8 → q ≠ 9 → (f_putS S c).i q = S.i q := fun q h4 h6 h7 h8 h9 => f_putS_i _ _ h4 h6 h7 h8 h9
  obtain ⟨m, m1, m2⟩ := h.buf
  obtain ⟨f, f1, f2⟩ := h.fnd
  exact ⟨h.mi.putS hc, h.ds.sm ⟨fun _ => putS_bz rfl (by decide), fun _ => putS_bz rfl (by decide)⟩, ⟨m, (e 2 (by decide) (by decide) (by decide) (by decide) (by decide)).trans m1, m2⟩, ⟨f, (e 20 (by decide) (by decide) (by decide) (by decide) (by decide)).trans f1, f2⟩⟩
theorem MG.putM {S : MS} (h : MG S) : MG (f_putM S) := by
  have e : ∀ q, q ≠ 4 → q ≠ 6 → q ≠ 7 → q ≠ 8 → q ≠ 9 → (f_putM S).i q = S.i q := fun q h4 h6 h7 h8 h9 => f_putM_i _ h4 h6 h7 h8 h9
  obtain ⟨m, m1, m2⟩ := h.buf
  obtain ⟨f, f1, f2⟩ := h.fnd
  exact ⟨h.mi.putM, h.ds.sm (putM_sm S), ⟨m, (e 2 (by decide) (by decide) (by decide) (by decide) (by decide)).trans m1, m2⟩, ⟨f, (e 20 (by decide) (by decide) (by decide) (by decide) (by decide)).trans f1, f2⟩⟩
theorem MG.ls {S : MS} (h : MG S) : MG ((S.si 23 0).si 34 0) := ⟨⟨h.mi.1, h.mi.2.1.si.si, 0, 0, rfl, by decide, rfl, by decide⟩, h.ds, h.buf, h.fnd⟩
theorem MG.ro {t q : Nat} : ∀ {S : MS}, MG S → MG (f_ro t q S).2 := by
  induction t generalizing q with
  | zero => intro S h; exact h
  | succ t ih =>
    intro S h
    have h1 : MG (f_putS S (f_roC q)) := h.putS (by unfold f_roC; split; exact ⟨123, by decide, rfl⟩; exact ⟨91, by decide, rfl⟩)
    rw [f_ro]
    generalize f_putS S (f_roC q) = S1 at h1 ⊢
    have h2 : MG (f_da S1 5 (f_m S1)) := h1.da rfl _
    generalize f_da S1 5 (f_m S1) = S2 at h2 ⊢
    split
    · split
      · exact h2.ls
      · split
        · exact h2
        · exact ih h2
    · exact h1.ls
theorem rm_a (S : MS) (k : Nat) {q j : Nat} (h : q ≠ 19) : ∀ n, (f_rm S k n).a q j = S.a q j
  | 0 => rfl
  | n + 1 => by rw [f_rm, sa_ne h, rm_a S k h n]
theorem MG.readOut {S : MS} {k : Nat} (h : MG S) : MG (f_readOut S k).2 := by
  have h00 : MG (f_rm ((((S.si 0 0).si 23 0).si 34 0).si 36 (-1)) k 8) := by
    obtain ⟨m, m1, m2⟩ := h.buf
    obtain ⟨f, f1, f2⟩ := h.fnd
    exact ⟨h.mi.ro0, h.ds.sm ⟨fun _ => (rm_a _ k (by decide) 8).trans rfl, fun _ => (rm_a _ k (by decide) 8).trans rfl⟩, ⟨m, ((f_rm_i _ k 2 8).trans rfl).trans m1, m2⟩, ⟨f, ((f_rm_i _ k 20 8).trans rfl).trans f1, f2⟩⟩
  have h0 : MG (f_ro0 S k) := h00.putM
  unfold f_readOut
  generalize f_ro0 S k = S1 at h0 ⊢
  split
  · exact MG.ro (h0.putS ⟨64, by decide, rfl⟩).putM
  · exact h0
