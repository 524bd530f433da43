section
/-! The decoder against the model: what a record leaves of the others. -/
/-- the records before r, and the letters before tx, as they were -/
def KR (r tx : Nat) (S S' : MS) : Prop := (∀ q i, i < r → S'.w q i = S.w q i) ∧ (∀ q i, i < r → 25 ≤ q → q ≤ 33 → q ≠ 31 → S'.a q i = S.a q i) ∧ (∀ t, t < 11 * r → S'.a 31 t = S.a 31 t) ∧ ∀ t, t < tx → S'.a 35 t = S.a 35 t
section KR
variable {r tx : Nat} {S S' S1 S2 : MS}
theorem KR.rf (S : MS) : KR r tx S S := ⟨fun _ _ _ => rfl, fun _ _ _ _ _ _ => rfl, fun _ _ => rfl, fun _ _ => rfl⟩
theorem KR.tr (h : KR r tx S S1) (g : KR r tx S1 S2) : KR r tx S S2 := ⟨fun q i a => (g.1 q i a).trans (h.1 q i a), fun q i a b c d => (g.2.1 q i a b c d).trans (h.2.1 q i a b c d), fun t a => (g.2.2.1 t a).trans (h.2.2.1 t a), fun t a => (g.2.2.2 t a).trans (h.2.2.2 t a)⟩
theorem KR.le {r' tx' : Nat} (h : KR r tx S S') (h1 : r' ≤ r) (h2 : tx' ≤ tx) : KR r' tx' S S' := ⟨fun q i a => h.1 q i (by omega), fun q i a => h.2.1 q i (by omega), fun t a => h.2.2.1 t (by omega), fun t a => h.2.2.2 t (by omega)⟩
theorem KR.si (S : MS) (k : Nat) (v : Int32) : KR r tx S (S.si k v) := ⟨fun _ _ _ => rfl, fun _ _ _ _ _ _ => rfl, fun _ _ => rfl, fun _ _ => rfl⟩
theorem KR.sw (S : MS) (k : Nat) (v : Int64) : KR r tx S (S.sw k r v) := ⟨fun q i hi => by rw [MS.sw_w, if_neg (fun e => by omega)], fun _ _ _ _ _ _ => rfl, fun _ _ => rfl, fun _ _ => rfl⟩
theorem KR.sa (S : MS) (k j : Nat) (v : Int32) (h : (k ≠ 31 ∧ k ≠ 35 ∧ r ≤ j) ∨ (k = 31 ∧ 11 * r ≤ j) ∨ (k = 35 ∧ tx ≤ j) ∨ 35 < k) : KR r tx S (S.sa k j v) := ⟨fun _ _ _ => rfl, fun q i hi q1 q2 q3 => by rw [MS.sa_a, if_neg (fun e => by omega)], fun t ht => by rw [MS.sa_a, if_neg (fun e => by omega)], fun t ht => by rw [MS.sa_a, if_neg (fun e => by omega)]⟩
theorem KR.bl (S : MS) (x y : Int32) : KR r tx S (f_bl S x y) := ⟨fun q i _ => f_bl_w S x y q i, fun q i _ _ _ _ => f_bl_a S x y q i, fun t _ => f_bl_a S x y 31 t, fun t _ => f_bl_a S x y 35 t⟩
theorem KR.txl (S : MS) (a : Nat) : ∀ k, KR r tx S (f_txl S tx a k)
  | 0 => KR.rf S
  | k + 1 => by
    rw [f_txl]
    exact (((KR.txl S a k).tr (KR.sa _ 35 _ _ (by omega))).tr (KR.si _ _ _)).tr (KR.si _ _ _)
theorem KR.text (S : MS) (a n : Nat) : KR r tx S (f_text S r tx a n) := ((KR.sa S 32 r _ (by omega)).tr (KR.sa _ 33 r _ (by omega))).tr (KR.txl _ _ _)
theorem KR.dg (S : MS) (a m : Nat) (mi : Bool) : ∀ k, KR r tx S (f_dg S a m mi k)
  | 0 => KR.rf S
  | k + 1 => by
    rw [f_dg]
    split
    · exact (KR.dg S a m mi k).tr (KR.bl _ _ _)
    · exact KR.dg S a m mi k
theorem KR.digS (S : MS) (a m : Nat) (sg : Bool) : KR r tx S (f_digS S a m sg) := (KR.dg _ _ _ _ _).tr (KR.si _ _ _)
theorem KR.nx (S : MS) : KR r tx S (f_nx S).2 := by
  unfold f_nx
  split
  · exact KR.si _ _ _
  · exact KR.bl _ _ _
theorem KR.d2 (S : MS) (i : Nat) : KR r tx S (f_d2 S i) := by
  unfold f_d2
  split
  · exact KR.bl _ _ _
  · exact KR.rf S
theorem KR.v2 (S : MS) (i : Nat) : KR r tx S (f_v2 S i) := by
  unfold f_v2
  split
  · exact KR.bl _ _ _
  · exact KR.rf S
theorem KR.d3 (S : MS) (b : Int32) (i : Nat) : KR r tx S (f_d3 S r b i) := by
  unfold f_d3
  split
  · unfold f_df1
    exact ((KR.sw S _ _).tr (KR.sa _ 28 r _ (by omega))).tr (KR.sa _ 29 r _ (by omega))
  · exact KR.rf S
theorem KR.dl : ∀ (t : Nat) (S : MS) (b : Int32) (i : Nat), KR r tx S (f_dl r t S b i)
  | 0, S, _, _ => KR.rf S
  | t + 1, S, b, i => by
    rw [f_dl]
    split
    · exact (((KR.nx S).tr (KR.d2 _ i)).tr (KR.d3 _ _ i)).tr (KR.dl t _ _ _)
    · exact KR.rf S
theorem KR.vl : ∀ (t : Nat) (S : MS) (b : Int32) (i : Nat), KR r tx S (f_vl r t S b i)
  | 0, S, _, _ => KR.rf S
  | t + 1, S, b, i => by
    rw [f_vl]
    split
    · refine (((KR.nx S).tr (KR.v2 _ i)).tr ?_).tr (KR.vl t _ _ _)
      generalize f_v2 (f_nx S).2 i = S1
      unfold f_v4
      split
      · exact (KR.sa S1 31 _ _ (by omega)).tr (KR.sa _ 30 r _ (by omega))
      · exact KR.rf S1
    · exact KR.rf S
theorem KR.value {cc : Nat} (er : f_r S = r) (et : f_tx S = tx) : KR r tx S (f_value S cc) := by
  unfold f_value
  rw [er, et]
  split
  · unfold f_valD
    split
    · split
      · split
        · refine (KR.si S 40 (nI (f_at S + 1))).tr ?_
          unfold f_v3
          split
          · exact (KR.sw _ _ _).tr (KR.text _ _ _)
          · split
            · exact (KR.digS _ _ _ _).tr (KR.sw _ _ _)
            · exact (KR.si _ _ _).tr (KR.sw _ _ _)
        · exact (KR.si _ _ _).tr (KR.bl _ _ _)
      · exact (KR.si _ _ _).tr (KR.bl _ _ _)
    · exact KR.bl _ _ _
  · unfold f_valN
    split
    · split
      · exact (KR.si S _ _).tr (KR.sw _ _ _)
      · exact (KR.digS S _ _ _).tr (KR.sw _ _ _)
    · exact KR.bl S _ _
theorem KR.rec0 (S : MS) (D : Int32) : KR r tx S (f_rec0 S r D) := by
  unfold f_rec0
  exact ((((((KR.sa S _ r _ (by omega)).tr (KR.sa _ _ r _ (by omega))).tr (KR.sw _ _ _)).tr (KR.sa _ _ r _ (by omega))).tr (KR.sa _ _ r _ (by omega))).tr (KR.sa _ _ r _ (by omega))).tr (KR.sa _ _ r _ (by omega))
/-- numbers that a record's parts leave -/
theorem dl_i {q : Nat} (h1 : q ≠ 40) (h2 : q ≠ 41) (h3 : q ≠ 36) : ∀ (t : Nat) (S : MS) (b : Int32) (i : Nat), (f_dl r t S b i).i q = S.i q
  | 0, S, _, _ => rfl
  | t + 1, S, b, i => by
    rw [f_dl]
    split
    · rw [dl_i h1 h2 h3 t, f_d3_i, f_d2_i _ _ h2 h3]
      unfold f_nx
      split
      · rw [MS.si_i, if_neg h1]
      · exact f_bl_i _ _ _ h2 h3
    · rfl
theorem vl_i {q : Nat} (h1 : q ≠ 40) (h2 : q ≠ 41) (h3 : q ≠ 36) : ∀ (t : Nat) (S : MS) (b : Int32) (i : Nat), (f_vl r t S b i).i q = S.i q
  | 0, S, _, _ => rfl
  | t + 1, S, b, i => by
    rw [f_vl]
    split
    · rw [vl_i h1 h2 h3 t, f_v4_i, f_v2_i _ _ h2 h3]
      unfold f_nx
      split
      · rw [MS.si_i, if_neg h1]
      · exact f_bl_i _ _ _ h2 h3
    · rfl
theorem dl_a {q : Nat} (h1 : q ≠ 28) (h2 : q ≠ 29) (j : Nat) : ∀ (t : Nat) (S : MS) (b : Int32) (i : Nat), (f_dl r t S b i).a q j = S.a q j
  | 0, S, _, _ => rfl
  | t + 1, S, b, i => by
    rw [f_dl]
    split
    · rw [dl_a h1 h2 j t]
      unfold f_d3
      split
      · unfold f_df1
        rw [sa_ne h2, sa_ne h1, MS.sw_a, f_d2_a, f_nx_a]
      · rw [f_d2_a, f_nx_a]
    · rfl
theorem vl_a {q : Nat} (h1 : q ≠ 30) (h2 : q ≠ 31) (j : Nat) : ∀ (t : Nat) (S : MS) (b : Int32) (i : Nat), (f_vl r t S b i).a q j = S.a q j
  | 0, S, _, _ => rfl
  | t + 1, S, b, i => by
    rw [f_vl]
    split
    · rw [vl_a h1 h2 j t]
      unfold f_v4
      split
      · rw [sa_ne h1, sa_ne h2, f_v2_a, f_nx_a]
      · rw [f_v2_a, f_nx_a]
    · rfl
end KR
/-! The list and the decoder's cells behind a record. -/
section Fin
variable {w : Wd} {c : Nat → ClassId} {a : Nat → Nat} {h h0 g g1 : PH} {li ra de p v b ba : Nat} {W : Nat → Prop} {κ κ' ω ω' : Nat → Nat} {S S' : MS} {lt lt' : Value}
theorem DK.fin (D : DK c li ra de h0 W κ g) (kp : κ p = 1) (kv : κ v = 2) (kl : lt' = .null ∨ ∃ t, lt' = .ref t ∧ κ t = 3) (hd : ∃ (fr : Value) (at_ en fa pl mo : Int32), g1 de = some (.inr (1, [.ref li, fr, .int at_, .int en, .int fa, .int pl, .int mo])) ∧ (mo = 0 ∨ mo = 1))
    (hp : ∃ (va sg : Int64) (co fu ta un ln : Int32) (vn : Nat), vn ≤ 11 ∧ g1 p = some (.inr (3, rdL va co fu sg ta un v (nI vn) lt' ln))) (hv : ∃ fv : Nat → Int32, g1 v = some (.inl (c 0, 11, .inl fv))) (hl : LK c g1 lt') (fr : ∀ q, q ≠ de → q ≠ p → q ≠ v → lt' ≠ .ref q → g1 q = g q) : DK c li ra de h0 W κ g1 := by
  obtain ⟨D1, D2, D3, D4, ⟨l1, l2, l3, l4, l5, l6⟩, D6⟩ := D
  have st : ∀ q, κ q = 0 → q ≠ de → g1 q = g q := fun q hq qd => fr q qd (fun e => by rw [e, kp] at hq; exact nomatch hq) (fun e => by rw [e, kv] at hq; exact nomatch hq) (fun e => by
    rcases kl with y | ⟨t, y1, y2⟩
    · rw [y] at e; exact nomatch e
    · rw [y1] at e
      have := Value.ref.inj e
      rw [← this, y2] at hq
      exact nomatch hq)
  refine ⟨by rw [st li l1 l5]; exact D1, by rw [st ra l2 l6]; exact D2, hd, fun q => ?_, ⟨l1, l2, l3, l4, l5, l6⟩, fun q hq => ?_⟩
  · by_cases qp : q = p
    · subst qp
      obtain ⟨va, sg, co, fu, ta, un, ln, vn, v1, v2⟩ := hp
      rw [kp]
      exact ⟨_, v2, va, sg, co, fu, ta, un, ln, v, vn, lt', rfl, kv, v1, kl⟩
    · by_cases qv : q = v
      · subst qv
        rw [kv]
        exact hv
      · by_cases qt : lt' = .ref q
        · rcases kl with y | ⟨t, y1, y2⟩
          · rw [y] at qt; exact nomatch qt
          · have e9 := Value.ref.inj (y1.symm.trans qt)
            subst e9
            rw [y2]
            rcases hl with z | ⟨t', m, fl, z1, z2, z3⟩
            · rw [y1] at z; exact nomatch z
            · have e9 := Value.ref.inj (y1.symm.trans z1)
              subst e9
              exact ⟨m, fl, z2, z3⟩
        · by_cases qd : q = de
          · subst qd
            rw [l3]
            have := D4 q
            rw [l3] at this
            exact this
          · rw [fr q qd qp qv qt]
            exact D4 q
  · obtain ⟨w1, w2, w3, w4, w5, w6⟩ := D6 q hq
    exact ⟨w1, w2, w3, w4, w5, by rw [st q w1 w4]; exact w6⟩
end Fin
end
section
/-! The list, told whole: a draft, behind a draft. -/
def ELx (c : Nat → ClassId) (a κ ω : Nat → Nat) (S : MS) (h : PH) (r : Nat) (gr : Nat → Option Nat) : Prop := (∀ q, ω q ≠ 0 → κ q ≠ 0) ∧ h (a 7) = some (.inr (4, [.ref (a 8), .int (nI r)])) ∧ S.i 23 = nI r ∧ r ≤ 100 ∧ h (a 8) = some (zR c gr) ∧ (∀ i p, i < 101 → gr i = some p → RL_ h ω i p) ∧ (∀ i, i < r → ∃ p, gr i = some p ∧ REx c h S i p) ∧ TI S r
section Lst
variable {w : Wd} {c : Nat → ClassId} {a : Nat → Nat} {h h0 g g1 : PH} {p v b ba r : Nat} {W : Nat → Prop} {κ κ' ω ω' : Nat → Nat} {S S' : MS} {lt lt' : Value} {gr : Nat → Option Nat} {va sg : Int64} {co fu ta un vn ln : Int32}
theorem ELx.el (E : ELx c a κ ω S h r gr) : EL c a κ ω S h := ⟨E.1, r, gr, E.2⟩
theorem EL.x (E : EL c a κ ω S h) : ∃ r gr, ELx c a κ ω S h r gr := by
  obtain ⟨x0, r, gr, x⟩ := E
  exact ⟨r, gr, x0, x⟩
theorem rd_vn {va va' sg sg' : Int64} {co fu ta un vn ln co' fu' ta' un' vn' ln' : Int32} {v v' : Nat} {lt lt' : Value} {o : Option va_E} (h1 : o = some (.inr (3, rdL va co fu sg ta un v vn lt ln))) (h2 : o = some (.inr (3, rdL va' co' fu' sg' ta' un' v' vn' lt' ln'))) : vn = vn' := by
  have := h1.symm.trans h2
  simp only [Option.some.injEq, Sum.inr.injEq, Prod.mk.injEq, List.cons.injEq, Value.long.injEq, Value.int.injEq, Value.ref.injEq, true_and, and_true] at this
  exact this.2.2.2.2.2.2.2.1
theorem REx.vle {i : Nat} (R : REx c g S i p) (D : DK c (a 7) (a 8) (a 9) h0 W κ g) (kp : κ p = 1) : (S.a 30 i).toNatClampNeg ≤ 11 := by
  obtain ⟨v, lt, fv, r1, -⟩ := R
  obtain ⟨e, e1, va, sg, co, fu, ta, un, ln, v', vn, lt', e2, -, e4, -⟩ := D.rd kp
  rw [e2] at e1
  rw [rd_vn r1 e1, nI_clamp (by omega)]
  exact e4
theorem ELx.upd (E : ELx c a κ ω S g r gr) (D : DK c (a 7) (a 8) (a 9) h0 W κ g) (hr : gr r = some p) (B : g p = some (.inr (3, rdL va co fu sg ta un v vn lt ln))) (hl : lt' = lt ∨ ∃ t, lt' = .ref t ∧ g t = none)
    (hd : ∃ (fr : Value) (at_ en fa pl mo : Int32), g1 (a 9) = some (.inr (1, [.ref (a 7), fr, .int at_, .int en, .int fa, .int pl, .int mo])) ∧ (mo = 0 ∨ mo = 1)) (hp : ∃ (va sg : Int64) (co fu ta un ln : Int32) (vn : Nat), vn ≤ 11 ∧ g1 p = some (.inr (3, rdL va co fu sg ta un v (nI vn) lt' ln))) (hv : ∃ fv : Nat → Int32, g1 v = some (.inl (c 0, 11, .inl fv))) (hk : LK c g1 lt') (fr : ∀ q, q ≠ a 9 → q ≠ p → q ≠ v → lt' ≠ .ref q → g1 q = g q) :
    ∃ κ' ω', (∀ q, ω' q ≠ 0 → κ' q ≠ 0) ∧ DK c (a 7) (a 8) (a 9) h0 W κ' g1 ∧ g1 (a 7) = g (a 7) ∧ g1 (a 8) = g (a 8) ∧ (∀ i p, i < 101 → gr i = some p → RL_ g1 ω' i p) ∧ ∀ S', KR r (f_tx S) S S' → ∀ i, i < r → ∃ p, gr i = some p ∧ REx c g1 S' i p := by
  obtain ⟨x0, x1, x2, x3, x4, x5, x6, x7⟩ := E
  have kR : ∀ j p, gr j = some p → κ p = 1 := fun j p hj => by
    obtain ⟨g', y1, y2⟩ := D.2.1
    rw [x4] at y1
    simp only [zR, Option.some.injEq, Sum.inl.injEq, Prod.mk.injEq, Sum.inr.injEq, true_and] at y1
    exact y2 j p (by rw [← y1]; exact hj)
  have kp := kR r p hr
  have Lr := x5 r p (by omega) hr
  obtain ⟨l1, va1, sg1, co1, fu1, ta1, un1, vn1, ln1, v1, lt1, l2, l3, l4⟩ := id Lr
  obtain ⟨e1, e2⟩ := rd_inj B l2
  subst e1 e2
  obtain ⟨ed, ed1, va2, sg2, co2, fu2, ta2, un2, ln2, v2, vn2, lt2, ed2, kv, -, kl⟩ := D.rd kp
  rw [ed2] at ed1
  obtain ⟨e1, e2⟩ := rd_inj B ed1
  subst e1 e2
  have nn := D.nn.2
  have n0 : ∀ q, ω q ≠ 0 → g q ≠ none := fun q hq => nn q (x0 q hq)
  have wde : ω (a 9) = 0 := Decidable.byContradiction fun n => x0 _ n D.2.2.2.2.1.2.2.1
  have w7 : ω (a 7) = 0 := Decidable.byContradiction fun n => x0 _ n D.2.2.2.2.1.1
  have w8 : ω (a 8) = 0 := Decidable.byContradiction fun n => x0 _ n D.2.2.2.2.1.2.1
  -- where the letters lie
  have lab : ∀ t, lt' = .ref t → ω t = 4 * r + 3 ∨ g t = none := fun t et => by
    rcases hl with y | ⟨t', y1, y2⟩
    · exact Or.inl (l4 t (y.symm.trans et))
    · have := Value.ref.inj (y1.symm.trans et)
      subst this
      exact Or.inr y2
  have st : ∀ q, ω q ≠ 4 * r + 1 → ω q ≠ 4 * r + 2 → ω q ≠ 4 * r + 3 → g q ≠ none → q ≠ a 9 → g1 q = g q := fun q q1 q2 q3 qn qd => fr q qd (fun e => q1 (by rw [e]; exact l1)) (fun e => q2 (by rw [e]; exact l3)) (fun e => (lab q e).elim q3 qn)
  have s7 : g1 (a 7) = g (a 7) := st _ (by omega) (by omega) (by omega) D.nn.1.1 D.2.2.2.2.1.2.2.2.2.1
  have s8 : g1 (a 8) = g (a 8) := st _ (by omega) (by omega) (by omega) D.nn.1.2.1 D.2.2.2.2.1.2.2.2.2.2
  have sx : ∀ S', KR r (f_tx S) S S' → ∀ i, i < r → ∃ p, gr i = some p ∧ REx c g1 S' i p := fun S' K i hi => by
    obtain ⟨q, q1, q2⟩ := x6 i hi
    have hvn := q2.vle D (kR i q q1)
    refine ⟨q, q1, q2.go (x5 i q (by omega) q1) (fun y y1 y2 => st y (by omega) (by omega) (by omega) (n0 y (by omega)) (fun e => by rw [e, wde] at y1; omega)) (fun y _ => K.1 y i hi) (fun y hy => K.2.1 y i hi (by omega) (by omega) (by omega)) (fun j hj => K.2.2.1 _ (by omega)) (fun j hj => K.2.2.2 _ (x7 i hi j hj))⟩
  have fin : ∀ κ' ω' : Nat → Nat, (∀ q, g q ≠ none → ω' q = ω q) → (∀ t, lt' = .ref t → ω' t = 4 * r + 3) → ∀ i q, i < 101 → gr i = some q → RL_ g1 ω' i q := fun κ' ω' hω hlt i q hi hq => by
    by_cases ei : i = r
    · subst ei
      rw [hr] at hq
      cases hq
      obtain ⟨va3, sg3, co3, fu3, ta3, un3, ln3, vn3, -, P3⟩ := hp
      exact ⟨by rw [hω _ (n0 _ (by rw [l1]; omega))]; exact l1, va3, sg3, co3, fu3, ta3, un3, nI vn3, ln3, v, lt', P3, by rw [hω _ (n0 _ (by rw [l3]; omega))]; exact l3, hlt⟩
    · obtain ⟨m1, va3, sg3, co3, fu3, ta3, un3, vn3, ln3, v3, lt3, m2, m3, m4⟩ := x5 i q hi hq
      refine ⟨by rw [hω _ (n0 _ (by rw [m1]; omega))]; exact m1, va3, sg3, co3, fu3, ta3, un3, vn3, ln3, v3, lt3, ?_, by rw [hω _ (n0 _ (by rw [m3]; omega))]; exact m3, fun t et => by rw [hω _ (n0 _ (by rw [m4 t et]; omega))]; exact m4 t et⟩
      rw [st q (by omega) (by omega) (by omega) (n0 q (by omega)) (fun e => by rw [e, wde] at m1; omega)]
      exact m2
  rcases hl with y | ⟨t, y1, y2⟩
  · refine ⟨κ, ω, x0, D.fin kp kv (by rw [y]; exact kl) hd hp hv hk fr, s7, s8, fin κ ω (fun _ _ => rfl) (fun t et => l4 t (y.symm.trans et)), sx⟩
  · rcases hk with z | ⟨t', m, fl, z1, z2, z3⟩
    · rw [y1] at z; exact nomatch z
    · have e9 := Value.ref.inj (y1.symm.trans z1)
      subst e9
      have D1 := D.new (k := 3) (e := .inl (c 0, m, .inl fl)) y2 ⟨m, fl, z2, rfl⟩
      have tp : p ≠ t := fun e => by rw [e, y2] at B; exact nomatch B
      have tv : v ≠ t := fun e => nn v (by rw [kv]; decide) (by rw [e]; exact y2)
      refine ⟨va_up κ t 3, va_up ω t (4 * r + 3), fun q hq => ?_, D1.fin (by rw [va_up_ne _ _ tp]; exact kp) (by rw [va_up_ne _ _ tv]; exact kv) (Or.inr ⟨t, y1, va_up_self ..⟩) hd hp hv (Or.inr ⟨t, m, fl, y1, z2, z3⟩) (fun q q1 q2 q3 q4 => by rw [hs_ne (fun e => q4 (by rw [e]; exact y1))]; exact fr q q1 q2 q3 q4), s7, s8, fin (va_up κ t 3) (va_up ω t (4 * r + 3)) (fun q hq => va_up_ne _ _ (fun e => hq (by rw [e]; exact y2))) (fun t' et => ?_), sx⟩
      · by_cases e : q = t
        · subst e; rw [va_up_self]; decide
        · rw [va_up_ne _ _ e] at hq ⊢; exact x0 q hq
      · have := Value.ref.inj (y1.symm.trans et)
        subst this
        exact va_up_self ..
theorem l_takesX (hW : Wc w c) {li ra n : Nat} (hn1 : n ≤ 100) (B : h li = some (.inr (4, [.ref ra, .int (nI n)]))) : TC w yX4_takesDraft cX4_takesDraft 1 (some .boolean) 0 [.ref li] h (some (.int (if n < 100 then 1 else 0))) (if n < 100 then hs h li (.inr (4, [.ref ra, .int (nI (n + 1))])) else h) := by
  refine TC.intro hW rfl (by decide +kernel) (Nat.le_of_ble_eq_true rfl) (fun z C Y E hn => ?_)
  refine x_aload_n C dX4_takesDraft_0 rfl ?_
  refine e_get C Y kd_X4 1 (by decide) wf_X4_17 dX4_takesDraft_1 B rfl ?_
  refine x_bipush (v := 100) C dX4_takesDraft_4 (by decide) ?_
  refine x_icmp_lt (tgt := 11) C dX4_takesDraft_6 (by decide) (fun c6 => ?_) (fun c6 => ?_)
  · have h100 : n < 100 := (nI_ltI (by omega) (by decide)).mp c6
    rw [if_pos h100, if_pos h100] at E
    refine x_aload_n C dX4_takesDraft_11 rfl ?_
    refine x_dup C dX4_takesDraft_12 rfl ?_
    refine e_get C Y kd_X4 1 (by decide) wf_X4_17 dX4_takesDraft_13 B rfl ?_
    refine x_iconst (v := 1) C dX4_takesDraft_16 (by decide) ?_
    refine x_iadd C dX4_takesDraft_17 ?_
    rw [nI_1]
    refine e_put C Y kd_X4 1 (by decide) rfl wf_X4_17 dX4_takesDraft_18 B (Nat.le_of_ble_eq_true rfl) rfl rfl rfl ?_
    refine x_iconst (v := 1) C dX4_takesDraft_21 (by decide) ?_
    refine e_zret C E dX4_takesDraft_22 (by decide) ?_ ?_
    all_goals rfl
  · have h100 : ¬ n < 100 := fun q => c6 (nI_lt q (by decide))
    rw [if_neg h100, if_neg h100] at E
    refine x_iconst (v := 0) C dX4_takesDraft_9 (by decide) ?_
    refine e_zret C E dX4_takesDraft_10 (by decide) ?_ ?_
    all_goals rfl
theorem l_draftX (hX : Wx w c) (XE : ELx c a κ ω S h r gr) (D : DK c (a 7) (a 8) (a 9) h0 W κ h) : T w gw yX4_draft cX4_draft 2 (some (.object "MeterBus$Reading")) 3 (40 * 3) 2 21 [.ref (a 7)] (EQ h) (fun q g => ∃ (κ' ω' : Nat → Nat) (gr' : Nat → Option Nat) (p : Nat), q = some (.ref p) ∧ gr' r = some p ∧ ELx c a κ' ω' S g r gr' ∧ DK c (a 7) (a 8) (a 9) h0 W κ' g ∧ g (a 9) = h (a 9)) := by
  have hW := hX.1
  refine TA.intro hW rfl (by decide +kernel) (Nat.le_of_ble_eq_true rfl) (fun z C Y E hn h1 hA => ?_)
  rw [show h1 = h from hA]
  clear hA
  obtain ⟨t, ht⟩ := hX.tR E.cs
  obtain ⟨x0, n2, x2, n1, g1, x5, x6, x7⟩ := id XE
  obtain ⟨l1, l2, l3, l4, l5, l6⟩ := D.2.2.2.2.1
  have nn := D.nn
  have n0 : ∀ q, ω q ≠ 0 → h q ≠ none := fun q hq => nn.2 q (x0 q hq)
  have ej : (if (100 : Int32) < nI r then (100 : Int32) else nI r) = nI r := if_neg (Int32.not_lt.mpr (nI_le (b := 100) n1 (by decide)))
  refine x_aload_n C dX4_draft_0 rfl ?_
  refine e_get C Y kd_X4 1 (by decide) wf_X4_17 dX4_draft_1 n2 rfl ?_
  refine x_bipush (v := 100) C dX4_draft_4 (by decide) ?_
  refine x_min C wm_X4_21 dX4_draft_6 (by rw [E.fr_]; decide) (by rw [E.lo_]; decide) ?_
  rw [ej]
  refine o_istore_nE (L' := [some _, some _]) C dX4_draft_9 (by rw [hn]; decide) rfl ?_
  refine x_aload_n C dX4_draft_10 rfl ?_
  refine e_get C Y kd_X4 0 (by decide) wf_X4_11 dX4_draft_11 n2 rfl ?_
  refine x_iload_n C dX4_draft_14 rfl ?_
  have rd : ∀ {kc ks : Nat} {pc : Nat} {L : List (Option Value)} {st : List Value} {hh : PH} {gg : Nat → Option Nat} (d : decode cX4_draft pc = .ok (.aaload, 1)) (hg : hh (a 8) = some (zR c gg)) (kk : X z kc ks (EQ hh) (pc + 1) L (va_rf (gg r) :: st)), X z kc ks (EQ hh) pc L (.int (nI r) :: .ref (a 8) :: st) := fun d hg kk => by
    refine x_aald C ht d (fun q e => by rw [e]; exact hg) (vp_in_nI (by omega) (by decide)) ?_
    rw [nI_clamp (by omega)]
    exact kk
  refine rd dX4_draft_15 g1 ?_
  cases eg : gr r with
  | some p =>
    refine x_ifnonnull (tgt := 32) C dX4_draft_16 (by decide) ?_
    refine x_aload_n C dX4_draft_32 rfl ?_
    refine e_get C Y kd_X4 0 (by decide) wf_X4_11 dX4_draft_33 n2 rfl ?_
    refine x_iload_n C dX4_draft_36 rfl ?_
    refine rd dX4_draft_37 g1 ?_
    rw [eg]
    exact x_aret C E (Or.inl ⟨_, rfl⟩) dX4_draft_38 (Or.inr ⟨p, rfl⟩) (fun q e => by rw [show q = _ from e]; exact ⟨κ, ω, gr, p, rfl, eg, XE, D, rfl⟩)
  | none =>
    refine x_ifnonnullN C dX4_draft_16 ?_
    refine x_aload_n C dX4_draft_19 rfl ?_
    refine e_get C Y kd_X4 0 (by decide) wf_X4_11 dX4_draft_20 n2 rfl ?_
    refine x_iload_n C dX4_draft_23 rfl ?_
    refine e_new (kc := 1) (ks := 11) (N := 10) C Y kd_X3 wc_X4_9 wn_X3 wz_X3 dX4_draft_24 (fs := [.long 0, .int 0, .int 0, .long 0, .int 0, .int 0, .null, .int 0, .null, .int 0]) (fun j hj => by rcases (show j = 0 ∨ j = 1 ∨ j = 2 ∨ j = 3 ∨ j = 4 ∨ j = 5 ∨ j = 6 ∨ j = 7 ∨ j = 8 ∨ j = 9 by omega) with rfl | rfl | rfl | rfl | rfl | rfl | rfl | rfl | rfl | rfl <;> rfl) (fun p hp => ?_)
    refine x_dup C dX4_draft_27 rfl ?_
    refine k_callIN (kc := 0) (ks := 0) (st := [.ref p, .int (nI r), .ref (a 8)]) C E.cs hX.1.1 gw_good (n_rd hW (hs_self ..)) md_X3_init rfl wi_X3_init (E.cs.nest hX (q := (RX4, 27, yX3_init)) (by simp [nst])) dX4_draft_28 rfl (by decide) (by decide) rfl (by simp [Value.category]) (fun r => X.opn (fun h2 hB => ?_))
    obtain ⟨rfl, v, v1, v2, e2⟩ := hB
    rw [hs_ne v1] at v2
    have e3 : h2 = hs (hs h v (.inl (c 0, 11, .inl (fun _ => 0)))) p (.inr (3, rdL 0 0 0 0 0 0 v 0 .null 0)) := by rw [e2, hs_comm _ (Ne.symm v1), hs_hs]
    have Dv := D.new (k := 2) (e := .inl (c 0, 11, .inl (fun _ => 0))) v2 ⟨_, rfl⟩
    have hp2 : hs h v (.inl (c 0, 11, .inl (fun _ => 0))) p = none := by rw [hs_ne (Ne.symm v1)]; exact hp
    have Dp := Dv.new (k := 1) (e := .inr (3, rdL 0 0 0 0 0 0 v 0 .null 0)) hp2 ⟨_, rfl, 0, 0, 0, 0, 0, 0, 0, v, 0, .null, rfl, by rw [va_up_ne _ _ v1, va_up_self], by decide, Or.inl rfl⟩
    rw [← e3] at Dp
    have np : h2 p = some (.inr (3, rdL 0 0 0 0 0 0 v 0 .null 0)) := by rw [e3]; exact hs_self ..
    have lra : h2 (a 7) = some (.inr (4, [.ref (a 8), .int (nI r)])) := by
      have nl1 : a 7 ≠ p := fun e => by rw [e, hp] at n2; exact nomatch n2
      have nl2 : a 7 ≠ v := fun e => by rw [e, v2] at n2; exact nomatch n2
      rw [e3, hs_ne nl1, hs_ne nl2]; exact n2
    have g8 : h2 (a 8) = some (zR c gr) := by
      have nl1 : a 8 ≠ p := fun e => by rw [e, hp] at g1; exact nomatch g1
      have nl2 : a 8 ≠ v := fun e => by rw [e, v2] at g1; exact nomatch g1
      rw [e3, hs_ne nl1, hs_ne nl2]; exact g1
    have kR : ∀ j p, gr j = some p → κ p = 1 := fun j p hj => by
      obtain ⟨g', y1, y2⟩ := D.2.1
      rw [g1] at y1
      simp only [zR, Option.some.injEq, Sum.inl.injEq, Prod.mk.injEq, Sum.inr.injEq, true_and] at y1
      exact y2 j p (by rw [← y1]; exact hj)
    have ko : ∀ q, h q ≠ none → q ≠ p ∧ q ≠ v := fun q hq => ⟨fun e => hq (by rw [e]; exact hp), fun e => hq (by rw [e]; exact v2)⟩
    refine e_ast (rr := (RX3, TX3, 10)) C Y ht rfl dX4_draft_31 g8 rfl (show r < 101 by omega) (by decide) np ?_
    have Dq := Dp.putR (g := va_up gr r (some p)) (fun i q hq => by
      by_cases e : i = r
      · subst e; rw [va_up_self] at hq; cases hq; exact va_up_self ..
      · rw [va_up_ne _ _ e] at hq
        have k1 := kR i q hq
        have := ko q (nn.2 q (by rw [k1]; decide))
        rw [va_up_ne _ _ this.1, va_up_ne _ _ this.2]
        exact k1)
    refine x_aload_n C dX4_draft_32 rfl ?_
    refine e_get C Y kd_X4 0 (by decide) wf_X4_11 dX4_draft_33 (by rw [hs_ne l4]; exact lra) rfl ?_
    refine x_iload_n C dX4_draft_36 rfl ?_
    refine rd (gg := va_up gr r (some p)) dX4_draft_37 (hs_self ..) ?_
    rw [va_up_self]
    exact x_aret C E (Or.inl ⟨_, rfl⟩) dX4_draft_38 (Or.inr ⟨p, rfl⟩) (fun q e => by
      rw [show q = _ from e]
      have old : ∀ q, h q ≠ none → q ≠ a 8 → hs h2 (a 8) (zR c (va_up gr r (some p))) q = h q := fun q hq q8 => by
        obtain ⟨k1, k2⟩ := ko q hq
        rw [hs_ne q8, e3, hs_ne k1, hs_ne k2]
      have w8 : ω (a 8) = 0 := Decidable.byContradiction fun n => x0 _ n l2
      have oldw : ∀ q, ω q ≠ 0 → hs h2 (a 8) (zR c (va_up gr r (some p))) q = h q := fun q hq => old q (n0 q hq) (fun e => hq (by rw [e]; exact w8))
      have p8 : p ≠ a 8 := fun e => by rw [← e, hp] at g1; exact nomatch g1
      refine ⟨va_up (va_up κ v 2) p 1, va_up (va_up ω v (4 * r + 2)) p (4 * r + 1), va_up gr r (some p), p, rfl, va_up_self .., ⟨fun q hq => ?_, by rw [hs_ne l4]; exact lra, x2, n1, hs_self .., fun i q hi hq => ?_, fun i hi => ?_, x7⟩, Dq, old _ nn.1.2.2 (Ne.symm l6)⟩
      · by_cases ep : q = p
        · subst ep; rw [va_up_self]; decide
        · rw [va_up_ne _ _ ep] at hq ⊢
          by_cases ev : q = v
          · subst ev; rw [va_up_self]; decide
          · rw [va_up_ne _ _ ev] at hq ⊢
            exact x0 q hq
      · by_cases ei : i = r
        · subst ei
          rw [va_up_self] at hq
          cases hq
          exact ⟨va_up_self .., 0, 0, 0, 0, 0, 0, 0, 0, v, .null, by rw [hs_ne p8]; exact np, by rw [va_up_ne _ _ v1, va_up_self], fun t et => nomatch et⟩
        · rw [va_up_ne _ _ ei] at hq
          obtain ⟨m1, va3, sg3, co3, fu3, ta3, un3, vn3, ln3, v3, lt3, m2, m3, m4⟩ := x5 i q hi hq
          have wo : ∀ y, ω y ≠ 0 → va_up (va_up ω v (4 * r + 2)) p (4 * r + 1) y = ω y := fun y hy => by
            obtain ⟨k1, k2⟩ := ko y (n0 y hy)
            rw [va_up_ne _ _ k1, va_up_ne _ _ k2]
          exact ⟨by rw [wo _ (by omega)]; exact m1, va3, sg3, co3, fu3, ta3, un3, vn3, ln3, v3, lt3, by rw [oldw _ (by omega)]; exact m2, by rw [wo _ (by omega)]; exact m3, fun t et => by rw [wo _ (by rw [m4 t et]; omega)]; exact m4 t et⟩
      · obtain ⟨q, q1, q2⟩ := x6 i hi
        exact ⟨q, by rw [va_up_ne _ _ (by omega)]; exact q1, q2.go (x5 i q (by omega) q1) (fun y y1 _ => oldw y (by omega)) (fun _ _ => rfl) (fun _ _ => rfl) (fun _ _ => rfl) (fun _ _ => rfl)⟩)
end Lst
end
section
/-! What a record's value leaves; the model's record. -/
section Val
variable {S : MS} {r tx cc : Nat}
theorem value_i {q : Nat} (h1 : q ≠ 34) (h2 : q ≠ 40) (h3 : q ≠ 41) (h4 : q ≠ 36) : (f_value S cc).i q = S.i q := by
  have dS : ∀ (Q : MS) a n sg, (f_digS Q a n sg).i q = Q.i q := fun Q a n sg => by unfold f_digS; rw [MS.si_i, if_neg h2, f_dg_i _ _ _ _ _ h3 h4]
  unfold f_value
  split
  · unfold f_valD
    split
    · split
      · split
        · unfold f_v3
          split
          · rw [text_i h1 h2, MS.sw_i, MS.si_i, if_neg h2]
          · split
            · rw [MS.sw_i, dS, MS.si_i, if_neg h2]
            · rw [MS.sw_i, MS.si_i, if_neg h2, MS.si_i, if_neg h2]
        · rw [f_bl_i _ _ _ h3 h4, MS.si_i, if_neg h2]
      · rw [f_bl_i _ _ _ h3 h4, MS.si_i, if_neg h2]
    · exact f_bl_i _ _ _ h3 h4
  · unfold f_valN
    split
    · split
      · rw [MS.sw_i, MS.si_i, if_neg h2]
      · rw [MS.sw_i, dS]
    · exact f_bl_i _ _ _ h3 h4
theorem value_a {q : Nat} (h1 : q ≠ 32) (h2 : q ≠ 33) (h3 : q ≠ 35) (j : Nat) : (f_value S cc).a q j = S.a q j := by
  unfold f_value
  split
  · unfold f_valD
    split
    · split
      · split
        · unfold f_v3
          split
          · rw [text_a h1 h2 h3, MS.sw_a, MS.si_a]
          · split
            · rw [MS.sw_a, f_digS_a, MS.si_a]
            · rfl
        · rw [f_bl_a, MS.si_a]
      · rw [f_bl_a, MS.si_a]
    · exact f_bl_a _ _ _ _ _
  · unfold f_valN
    split
    · split
      · rfl
      · rw [MS.sw_a, f_digS_a]
    · exact f_bl_a _ _ _ _ _
/-- the letters of the new record lie between the old end and the new one -/
def TZ (tx r : Nat) (Q : MS) : Prop := tx ≤ f_tx Q ∧ ∀ j, j < (Q.a 33 r).toNatClampNeg → (Q.a 32 r).toNatClampNeg + j < f_tx Q
theorem TZ.text {a n : Nat} (h34 : S.i 34 = nI tx) (ht : tx + n < 2 ^ 31) : TZ tx r (f_text S r tx a n) := by
  have e : f_tx (f_text S r tx a n) = tx + n := by unfold f_tx f_text; rw [f_txl_34 ((S.sa 32 r (nI tx)).sa 33 r (nI n)) tx a n h34, nI_clamp ht]
  refine ⟨by omega, fun j hj => ?_⟩
  rw [text_33, nI_clamp (by omega)] at hj
  rw [e, text_32, nI_clamp (by omega)]
  omega
theorem TZ.same (h34 : S.i 34 = nI tx) (ht : tx < 2 ^ 31) (h33 : S.a 33 r = 0) {Q : MS} (e34 : Q.i 34 = S.i 34) (e33 : Q.a 33 r = S.a 33 r) : TZ tx r Q := by
  have e : f_tx Q = tx := by unfold f_tx; rw [e34, h34, nI_clamp ht]
  refine ⟨by omega, fun j hj => ?_⟩
  rw [e33, h33] at hj
  exact absurd hj (Nat.not_lt_zero j)
theorem TZ.value (er : f_r S = r) (h34 : S.i 34 = nI tx) (ht : tx ≤ 26000) (h33 : S.a 33 r = 0) (hd : ∀ j, byt (S.a 38 j)) : TZ tx r (f_value S cc) := by
  have et : f_tx S = tx := by unfold f_tx; rw [h34, nI_clamp (by omega)]
  have sm : ∀ Q : MS, Q.i 34 = S.i 34 → Q.a 33 r = S.a 33 r → TZ tx r Q := fun Q e1 e2 => TZ.same h34 (by omega) h33 e1 e2
  have dS : ∀ (Q : MS) a n sg, (f_digS Q a n sg).i 34 = Q.i 34 := fun Q a n sg => by unfold f_digS; rw [MS.si_i, if_neg (by decide), f_dg_i _ _ _ _ _ (by decide) (by decide)]
  unfold f_value
  rw [er, et]
  split
  · obtain ⟨V, hV, eV⟩ := hd (f_at S)
    rw [eV, nI_clamp (by omega)]
    unfold f_valD
    split
    · split
      · split
        · unfold f_v3
          split
          · exact TZ.text h34 (by omega)
          · split
            · exact sm _ (by rw [MS.sw_i, dS]; rfl) (by rw [MS.sw_a, f_digS_a]; rfl)
            · exact sm _ rfl rfl
        · exact sm _ (by rw [f_bl_i _ _ _ (by decide) (by decide)]; rfl) (by rw [f_bl_a]; rfl)
      · exact sm _ (by rw [f_bl_i _ _ _ (by decide) (by decide)]; rfl) (by rw [f_bl_a]; rfl)
    · exact sm _ (f_bl_i _ _ _ (by decide) (by decide)) (f_bl_a _ _ _ _ _)
  · unfold f_valN
    split
    · split
      · exact sm _ rfl rfl
      · exact sm _ (by rw [MS.sw_i, dS]) (by rw [MS.sw_a, f_digS_a])
    · exact sm _ (f_bl_i _ _ _ (by decide) (by decide)) (f_bl_a _ _ _ _ _)
end Val
section R0
variable {S : MS} {r : Nat} {D : Int32}
theorem rec0_i (q : Nat) : (f_rec0 S r D).i q = S.i q := rfl
theorem rec0_25 : (f_rec0 S r D).a 25 r = D &&& 15 := by unfold f_rec0; rw [sa_ne (by decide), sa_ne (by decide), sa_ne (by decide), sa_ne (by decide), MS.sw_a, sa_ne (by decide), MS.sa_a, if_pos ⟨rfl, rfl⟩]
theorem rec0_26 : (f_rec0 S r D).a 26 r = (D >>> ((4 : Int32) &&& 31)) &&& 3 := by unfold f_rec0; rw [sa_ne (by decide), sa_ne (by decide), sa_ne (by decide), sa_ne (by decide), MS.sw_a, MS.sa_a, if_pos ⟨rfl, rfl⟩]
theorem rec0_27 : (f_rec0 S r D).w 27 r = ((D >>> ((6 : Int32) &&& 31)) &&& 1).toInt64 := by unfold f_rec0; rw [MS.sa_w, MS.sa_w, MS.sa_w, MS.sa_w, MS.sw_w, if_pos ⟨rfl, rfl⟩]
theorem rec0_28 : (f_rec0 S r D).a 28 r = 0 := by unfold f_rec0; rw [sa_ne (by decide), sa_ne (by decide), sa_ne (by decide), MS.sa_a, if_pos ⟨rfl, rfl⟩]
theorem rec0_29 : (f_rec0 S r D).a 29 r = 0 := by unfold f_rec0; rw [sa_ne (by decide), sa_ne (by decide), MS.sa_a, if_pos ⟨rfl, rfl⟩]
theorem rec0_33 : (f_rec0 S r D).a 33 r = 0 := by unfold f_rec0; rw [MS.sa_a, if_pos ⟨rfl, rfl⟩]
theorem rec0_38 (j : Nat) : (f_rec0 S r D).a 38 j = S.a 38 j := by unfold f_rec0; rw [sa_ne (by decide), sa_ne (by decide), sa_ne (by decide), sa_ne (by decide), MS.sw_a, sa_ne (by decide), sa_ne (by decide)]
end R0
section Rcd
variable {S : MS} {i m r tx : Nat}
theorem rcd_more (fat : f_at S = i) (fen : f_e S = m) (h : S.a 38 i = 31) : f_rcd S = if i + 1 < m then f_bl ((S.si 40 (nI (i + 1))).si 37 1) 4 (nI (i + 1)) else (S.si 40 (nI (i + 1))).si 37 1 := by
  unfold f_rcd
  dsimp only
  rw [fat, fen, h, if_neg (by decide), if_pos rfl]
theorem rcd_fill (fat : f_at S = i) (h : S.a 38 i = 47) : f_rcd S = S.si 40 (nI (i + 1)) := by
  unfold f_rcd
  dsimp only
  rw [fat, h, if_pos rfl]
theorem rcd_bad (fat : f_at S = i) (h47 : ¬ S.a 38 i = 47) (h31 : ¬ S.a 38 i = 31) (h0 : S.i 41 = 0) (h : S.a 38 i &&& 15 = 8 ∨ (S.a 38 i &&& 15 = 15 ∧ ¬ S.a 38 i = 15)) : ¬ (f_rcd S).i 41 = 0 := by
  unfold f_rcd
  dsimp only
  rw [fat, if_neg h47, if_neg h31, if_pos h]
  exact bl_no h0 (by decide)
theorem rcd_full (fat : f_at S = i) (er : f_r S = 100) (h47 : ¬ S.a 38 i = 47) (h31 : ¬ S.a 38 i = 31) (h0 : S.i 41 = 0) : ¬ (f_rcd S).i 41 = 0 := by
  by_cases h : S.a 38 i &&& 15 = 8 ∨ (S.a 38 i &&& 15 = 15 ∧ ¬ S.a 38 i = 15)
  · exact rcd_bad fat h47 h31 h0 h
  unfold f_rcd
  dsimp only
  rw [fat, if_neg h47, if_neg h31, if_neg h, if_pos er]
  exact bl_no h0 (by decide)
theorem rcd_own (fat : f_at S = i) (fen : f_e S = m) (er : f_r S = r) (r1 : r < 100) (h15 : S.a 38 i = 15) : f_rcd S = f_own (f_rec0 (S.si 40 (nI (i + 1))) r 15) r (f_tx S) (i + 1) m := by
  unfold f_rcd
  dsimp only
  rw [fat, fen, er, h15, if_neg (by decide), if_neg (by decide), if_neg (by decide), if_neg (by omega), if_pos (by decide)]
theorem rcd_ext (fat : f_at S = i) (er : f_r S = r) (r1 : r < 100) (h47 : ¬ S.a 38 i = 47) (h31 : ¬ S.a 38 i = 31) (h8 : ¬ S.a 38 i &&& 15 = 8) (h15 : ¬ S.a 38 i &&& 15 = 15) : f_rcd S = f_ends (f_vl r 13 (f_dl r 12 (f_rec0 (S.si 40 (nI (i + 1))) r (S.a 38 i)) (S.a 38 i) 0) 128 0) (S.a 38 i &&& 15).toNatClampNeg r := by
  unfold f_rcd
  dsimp only
  rw [fat, er, if_neg h47, if_neg h31, if_neg (fun y => y.elim h8 (fun z => h15 z.1)), if_neg (by omega), if_neg h15]
/-- a record whose parts fail fails -/
theorem rcd_no (fat : f_at S = i) (er : f_r S = r) (r1 : r ≤ 100) (h0 : S.i 41 = 0) (h47 : ¬ S.a 38 i = 47) (h31 : ¬ S.a 38 i = 31) (h15 : ¬ S.a 38 i &&& 15 = 15) (h : S.a 38 i &&& 15 = 8 ∨ ¬ (f_ends (f_vl r 13 (f_dl r 12 (f_rec0 (S.si 40 (nI (i + 1))) r (S.a 38 i)) (S.a 38 i) 0) 128 0) (S.a 38 i &&& 15).toNatClampNeg r).i 41 = 0) : ¬ (f_rcd S).i 41 = 0 := by
  by_cases h8 : S.a 38 i &&& 15 = 8
  · exact rcd_bad fat h47 h31 h0 (Or.inl h8)
  by_cases r2 : r = 100
  · exact rcd_full fat (er.trans r2) h47 h31 h0
  rw [rcd_ext fat er (by omega) h47 h31 h8 h15]
  exact h.resolve_left h8
end Rcd
theorem byt15 {x : Int32} (h : byt x) : ∃ k, k ≤ 15 ∧ x &&& 15 = nI k := by
  obtain ⟨b, h1, rfl⟩ := h
  have key : ∀ b, b < 256 → ∃ k, k ≤ 15 ∧ nI b &&& 15 = nI k := fun b hb => ⟨b % 16, by omega, by
    have : ∀ b, b < 256 → nI b &&& 15 = nI (b % 16) := by decide +kernel
    exact this b hb⟩
  exact key b h1
end
section
/-! The decoder against the model: one item. -/
/-- the frame's bytes are the model's data; where it stands -/
def DA0 (fb : Nat → Int32) (nb : Nat) (S : MS) (i m : Nat) : Prop := (∀ j, j < nb → fb j = S.a 38 j) ∧ (∀ j, byt (S.a 38 j)) ∧ S.i 40 = nI i ∧ S.i 39 = nI m ∧ i ≤ m ∧ m ≤ 256 ∧ m ≤ nb ∧ S.i 41 = 0 ∧ (S.i 37 = 0 ∨ S.i 37 = 1)
/-- the list and the decoder, between two items -/
def EH (c : Nat → ClassId) (a : Nat → Nat) (h0 : PH) (W : Nat → Prop) (b : Nat) (κ ω : Nat → Nat) (S : MS) (r : Nat) (gr : Nat → Option Nat) (h : PH) : Prop := ELx c a κ ω S h r gr ∧ DK c (a 7) (a 8) (a 9) h0 W κ h ∧ ∃ fa pl : Int32, h (a 9) = some (.inr (1, [.ref (a 7), .ref b, .int (S.i 40), .int (S.i 39), .int fa, .int pl, .int (S.i 37)]))
/-- behind an item -/
def IPo (c : Nat → ClassId) (a : Nat → Nat) (h0 : PH) (W : Nat → Prop) (b : Nat) (fb : Nat → Int32) (nb lo m : Nat) (S : MS) (r : Nat) (q : Option Value) (g : PH) : Prop := (q = some (.int 1) ∧ ∃ κ' ω' r' gr' j, EH c a h0 W b κ' ω' (f_rcd S) r' gr' g ∧ lo ≤ j ∧ DA0 fb nb (f_rcd S) j m ∧ KR r (f_tx S) S (f_rcd S) ∧ r ≤ r' ∧ f_tx S ≤ f_tx (f_rcd S)) ∨ (q = some (.int 0) ∧ ¬ (f_rcd S).i 41 = 0 ∧ KR r (f_tx S) S (f_rcd S) ∧ ∃ κ' ω' gr', ELx c a κ' ω' S g r gr' ∧ DK c (a 7) (a 8) (a 9) h0 W κ' g)
section Item
variable {w : Wd} {c : Nat → ClassId} {a : Nat → Nat} {h h0 g : PH} {b ba nb r : Nat} {W : Nat → Prop} {fb : Nat → Int32} {κ ω : Nat → Nat} {S S' : MS} {gr : Nat → Option Nat}
theorem KR.rcd (er : f_r S = r) : KR r (f_tx S) S (f_rcd S) := by
  unfold f_rcd
  dsimp only
  rw [er]
  split
  · exact KR.si _ _ _
  · split
    · split
      · exact ((KR.si _ _ _).tr (KR.si _ _ _)).tr (KR.bl _ _ _)
      · exact (KR.si _ _ _).tr (KR.si _ _ _)
    · split
      · exact (KR.si _ _ _).tr (KR.bl _ _ _)
      · split
        · exact (KR.si _ _ _).tr (KR.bl _ _ _)
        · split
          · exact ((((KR.si _ _ _).tr (KR.rec0 _ _)).tr (KR.sw _ _ _)).tr (KR.text _ _ _)).tr (KR.si _ _ _)
          · refine (((KR.si S 40 (nI (f_at S + 1))).tr (KR.rec0 _ (S.a 38 (f_at S)))).tr (KR.dl 12 _ (S.a 38 (f_at S)) 0)).tr ((KR.vl 13 _ 128 0).tr ?_)
            have e1 : (f_vl r 13 (f_dl r 12 (f_rec0 (S.si 40 (nI (f_at S + 1))) r (S.a 38 (f_at S))) (S.a 38 (f_at S)) 0) 128 0).i 23 = S.i 23 := by rw [vl_i (by decide) (by decide) (by decide), dl_i (by decide) (by decide) (by decide)]; rfl
            have e2 : (f_vl r 13 (f_dl r 12 (f_rec0 (S.si 40 (nI (f_at S + 1))) r (S.a 38 (f_at S))) (S.a 38 (f_at S)) 0) 128 0).i 34 = S.i 34 := by rw [vl_i (by decide) (by decide) (by decide), dl_i (by decide) (by decide) (by decide)]; rfl
            generalize f_vl r 13 (f_dl r 12 (f_rec0 (S.si 40 (nI (f_at S + 1))) r (S.a 38 (f_at S))) (S.a 38 (f_at S)) 0) 128 0 = S4 at e1 e2
            unfold f_ends
            split
            · exact (KR.value (by unfold f_r; rw [e1]; exact er) (by unfold f_tx; rw [e2])).tr (KR.si _ _ _)
            · exact KR.rf _
theorem ELx.go (E : ELx c a κ ω S h r gr) (e7 : g (a 7) = h (a 7)) (e8 : g (a 8) = h (a 8)) (e : ∀ q, ω q ≠ 0 → g q = h q) (s : LSx S S') : ELx c a κ ω S' g r gr := by
  obtain ⟨x0, x1, x2, x3, x4, x5, x6, x7⟩ := E
  refine ⟨x0, by rw [e7]; exact x1, (s.1 23 (Or.inl rfl)).trans x2, x3, by rw [e8]; exact x4, fun i p hi hp => ?_, fun i hi => ?_, fun i hi j hj => ?_⟩
  · have L := x5 i p hi hp
    exact L.go (e p (by rw [L.1]; omega))
  · obtain ⟨p, p1, p2⟩ := x6 i hi
    have L := x5 i p (by omega) p1
    exact ⟨p, p1, p2.go L (fun q q1 _ => e q (by omega)) (fun q _ => s.2.1 q i) (fun q hq => s.2.2 q i (by omega) (by omega)) (fun j _ => s.2.2 31 _ (by omega) (by omega)) (fun j _ => s.2.2 35 _ (by omega) (by omega))⟩
  · rw [s.2.2 33 i (by omega) (by omega)] at hj
    rw [s.2.2 32 i (by omega) (by omega), show f_tx S' = f_tx S from by unfold f_tx; rw [s.1 34 (Or.inr rfl)]]
    exact x7 i hi j hj
/-- only the decoder's own cell is new -/
theorem EH.putD (Q : ELx c a κ ω S h r gr ∧ DK c (a 7) (a 8) (a 9) h0 W κ h) (s : LSx S S') (fr : Value) (at_ en fa pl mo : Int32) (hm : mo = 0 ∨ mo = 1) : ELx c a κ ω S' (hs h (a 9) (.inr (1, [.ref (a 7), fr, .int at_, .int en, .int fa, .int pl, .int mo]))) r gr ∧ DK c (a 7) (a 8) (a 9) h0 W κ (hs h (a 9) (.inr (1, [.ref (a 7), fr, .int at_, .int en, .int fa, .int pl, .int mo]))) := by
  obtain ⟨E, D⟩ := Q
  obtain ⟨l1, l2, l3, l4, l5, l6⟩ := D.2.2.2.2.1
  exact ⟨E.go (hs_ne l5) (hs_ne l6) (fun q hq => hs_ne (fun e => E.1 q hq (by rw [e]; exact l3))) s, D.putD _ _ _ _ _ _ hm⟩
theorem d_item0X (hX : Wx w c) (R : RW c h0 b ba fb nb) (o1 : W b) (o2 : W ba) (H : EH c a h0 W b κ ω S r gr h) {i m : Nat} (A : DA0 fb nb S i m) (hi : i < m) (er : f_r S = r) (hv : fb i = 47 ∨ fb i = 31) : T w gw yX1_readItem cX1_readItem 5 (some .boolean) 6 (40 * 6) 0 0 [.ref (a 9)] (EQ h) (IPo c a h0 W b fb nb (i + 1) m S r) := by
  have hW := hX.1
  refine TA.intro hW rfl (by decide +kernel) (Nat.le_of_ble_eq_true rfl) (fun z C Y E hn h1 hA => ?_)
  rw [show h1 = h from hA]
  clear hA
  obtain ⟨XE, D, fa, pl, B⟩ := id H
  obtain ⟨A1, A2, A3, A4, A5, A6, A7, A8, A9⟩ := id A
  obtain ⟨-, fat, fen⟩ := WFp.of A3 A4 A5 (by omega)
  have Rh := D.row R o1 o2
  have kr := KR.rcd (S := S) er
  have tk := d_take hW B Rh
  rw [A3, rAt_in (show i < nb by omega) Rh.2.2.2, A1 i (by omega), nI_1] at tk
  rw [A1 i (by omega)] at hv
  refine x_aload_n C dX1_readItem_0 rfl ?_
  refine e_get C Y kd_X1 2 (by decide) wf_X1_9 dX1_readItem_1 B rfl ?_
  refine o_istore_nE (L' := [some _, some _, none, none, none]) C dX1_readItem_4 (by rw [hn]; decide) rfl ?_
  refine x_aload_n C dX1_readItem_5 rfl ?_
  refine u_callV (st := []) C Y hW E.cs tk md_X1_take wi_X1_take ws_X1_take wm_X1_85 dX1_readItem_6 rfl (by decide) (by decide) B rfl rfl (by decide) ?_
  refine o_istore_nE (L' := [some _, some _, some _, none, none]) C dX1_readItem_9 (by rw [hn]; decide) rfl ?_
  refine x_iload_n C dX1_readItem_10 rfl ?_
  refine x_bipush (v := 47) C dX1_readItem_11 (by decide) ?_
  refine x_icmp_ne (tgt := 18) C dX1_readItem_13 (by decide) (fun q => ?_) (fun q => ?_)
  rotate_left
  · refine x_iconst (v := 1) C dX1_readItem_16 (by decide) ?_
    refine x_zret C E dX1_readItem_17 (by decide) (fun g e => ?_)
    rw [show g = _ from e]
    have ef := rcd_fill fat q
    rw [ef] at kr
    refine Or.inl ⟨rfl, ?_⟩
    rw [ef]
    have P := EH.putD (S' := S.si 40 (nI (i + 1))) ⟨XE, D⟩ (LSx.si S 40 _ (by decide)) (.ref b) (nI (i + 1)) (S.i 39) fa pl (S.i 37) A9
    exact ⟨κ, ω, r, gr, i + 1, ⟨P.1, P.2, fa, pl, hs_self ..⟩, Nat.le_refl _, ⟨A1, A2, rfl, A4, hi, A6, A7, A8, A9⟩, kr, Nat.le_refl _, Nat.le_refl _⟩
  have hv2 : S.a 38 i = 31 := hv.resolve_left q
  have ef := rcd_more fat fen hv2
  refine x_iload_n C dX1_readItem_18 rfl ?_
  refine x_bipush (v := 31) C dX1_readItem_19 (by decide) ?_
  refine x_icmp_ne (tgt := 58) C dX1_readItem_21 (by decide) (fun q => absurd hv2 q) (fun _ => ?_)
  refine x_aload_n C dX1_readItem_24 rfl ?_
  refine x_iconst (v := 1) C dX1_readItem_25 (by decide) ?_
  refine e_put C Y kd_X1 6 (by decide) rfl wf_X1_24 dX1_readItem_26 (hs_self ..) (Nat.le_of_ble_eq_true rfl) (by decide) (by decide) (hs_hs ..) ?_
  refine x_aload_n C dX1_readItem_29 rfl ?_
  refine e_get C Y kd_X1 2 (by decide) wf_X1_9 dX1_readItem_30 (hs_self ..) rfl ?_
  refine x_aload_n C dX1_readItem_33 rfl ?_
  refine e_get C Y kd_X1 3 (by decide) wf_X1_15 dX1_readItem_34 (hs_self ..) rfl ?_
  refine x_icmp_eq (tgt := 52) C dX1_readItem_37 (by decide) (fun q => ?_) (fun q => ?_)
  · have em : i + 1 = m := by
      have q9 : nI (i + 1) = S.i 39 := q
      rw [A4] at q9
      exact (nI_eq (by omega) (by omega)).mp q9
    rw [if_neg (show ¬ i + 1 < m by omega)] at ef
    refine x_iconst (v := 1) C dX1_readItem_52 (by decide) ?_
    refine x_goto (tgt := 57) C dX1_readItem_53 (by decide) ?_
    refine x_zret C E dX1_readItem_57 (by decide) (fun g e => ?_)
    rw [show g = _ from e]
    rw [ef] at kr
    refine Or.inl ⟨rfl, ?_⟩
    rw [ef]
    have P := EH.putD (S' := (S.si 40 (nI (i + 1))).si 37 1) ⟨XE, D⟩ ((LSx.si S 40 _ (by decide)).tr (LSx.si _ 37 _ (by decide))) (.ref b) (nI (i + 1)) (S.i 39) fa pl 1 (Or.inr rfl)
    exact ⟨κ, ω, r, gr, i + 1, ⟨P.1, P.2, fa, pl, hs_self ..⟩, Nat.le_refl _, ⟨A1, A2, rfl, A4, hi, A6, A7, A8, Or.inr rfl⟩, kr, Nat.le_refl _, Nat.le_refl _⟩
  · have em : i + 1 < m := by
      by_cases y : i + 1 = m
      · exact absurd (show nI (i + 1) = S.i 39 by rw [A4, y]) q
      · omega
    rw [if_pos em] at ef
    refine x_aload_n C dX1_readItem_40 rfl ?_
    refine x_iconst (v := 4) C dX1_readItem_41 (by decide) ?_
    refine x_aload_n C dX1_readItem_42 rfl ?_
    refine e_get C Y kd_X1 2 (by decide) wf_X1_9 dX1_readItem_43 (hs_self ..) rfl ?_
    refine u_callV (st := []) C Y hW E.cs (d_wrong hW (hs_self ..) 4 _) md_X1_wrong wi_X1_wrong ws_X1_wrong wm_X1_67 dX1_readItem_46 rfl (by decide) (by decide) (hs_self ..) rfl rfl (by decide) ?_
    refine x_if_eq (tgt := 56) C dX1_readItem_49 (by decide) (fun _ => ?_) (fun q => absurd rfl q)
    refine x_iconst (v := 0) C dX1_readItem_56 (by decide) ?_
    refine x_zret C E dX1_readItem_57 (by decide) (fun g e => ?_)
    rw [show g = _ from e, hs_hs]
    have P := EH.putD (S' := S) ⟨XE, D⟩ (LSx.rf S) (.ref b) (nI (i + 1)) (S.i 39) 4 (nI (i + 1)) 1 (Or.inr rfl)
    exact Or.inr ⟨rfl, by rw [ef]; exact bl_no A8 (by decide), kr, κ, ω, gr, P.1, P.2⟩
end Item
end
