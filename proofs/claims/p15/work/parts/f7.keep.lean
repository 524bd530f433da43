/-! The decoder against the model: what a record leaves of the others. -/
/-- the records before r, and the letters before tx, as they were -/
def KR (r tx : Nat) (S S' : MS) : Prop := (∀ q i, i < r → S'.w q i = S.w q i) ∧ (∀ q i, i < r → 25 ≤ q → q ≤ 33 → q ≠ 31 → S'.a q i = S.a q i) ∧ (∀ t, t < 11 * r → S'.a 31 t = S.a 31 t) ∧ ∀ t, t < tx → S'.a 35 t = S.a 35 t
section KR
variable {r tx : Nat} {S S' S1 S2 : MS}
theorem KR.rf (S : MS) : KR r tx S S := ⟨fun _ _ _ => rfl, fun _ _ _ _ _ _ => rfl, fun _ _ => rfl, fun _ _ => rfl⟩
theorem KR.tr (h : KR r tx S S1) (g : KR r tx S1 S2) : KR r tx S S2 := ⟨fun q i a => (g.1 q i a).trans (h.1 q i a), fun q i a b c d => (g.2.1 q i a b c d).trans (h.2.1 q i a b c d), fun t a => (g.2.2.1 t a).trans (h.2.2.1 t a), fun t a => (g.2.2.2 t a).trans (h.2.2.2 t a)⟩
theorem KR.le {r' tx' : Nat} (h : KR r tx S S') (h1 : r' ≤ r) (h2 : tx' ≤ tx) : KR r' tx' S S' := ⟨fun q i a => h.1 q i (by omega), fun q i a => h.2.1 q i (by omega), fun t a => h.2.2.1 t (by omega), fun t a => h.2.2.2 t (by omega)⟩
theorem KR.si (S : MS) (k : Nat) (v : Int32) : KR r tx S (S.si k v) := ⟨fun _ _ _ => rfl, fun _ _ _ _ _ _ => rfl, fun _ _ => rfl, fun _ _ => rfl⟩
theorem KR.sw (S : MS) (k : Nat) (v : Int64) : KR r tx S (S.sw k r v) := ⟨fun q i hi => by rw [MS.sw_w, if_neg (fun e => by omega)], fun _ _ _ _ _ _ => rfl, fun _ _ => rfl, fun _ _ => rfl⟩
theorem KR.sa (S : MS) (k j : Nat) (v : Int32) (h : (k ≠ 31 ∧ k ≠ 35 ∧ r ≤ j) ∨ (k = 31 ∧ 11 * r ≤ j) ∨ (k = 35 ∧ tx ≤ j) ∨ 35 < k) : KR r tx S (S.sa k j v) := ⟨fun _ _ _ => rfl, fun q i hi q1 q2 q3 => by rw [MS.sa_a, if_neg (fun e => by omega)], fun t ht => by rw [MS.sa_a, if_neg (fun e => by omega)], fun t ht => by rw [MS.sa_a, if_neg (fun e => by omega)]⟩
theorem KR.bl (S : MS) (x y : Int32) : KR r tx S (f_bl S x y) := ⟨fun q i _ => f_bl_w S x y q i, fun q i _ _ _ _ => f_bl_a S x y q i, fun t _ => f_bl_a S x y 31 t, fun t _ => f_bl_a S x y 35 t⟩
theorem KR.txl (S : MS) (a : Nat) : ∀ k, KR r tx S (f_txl S tx a k)
  | 0 => KR.rf S
  | k + 1 => by
    rw [f_txl]
    exact (((KR.txl S a k).tr (KR.sa _ 35 _ _ (by omega))).tr (KR.si _ _ _)).tr (KR.si _ _ _)
theorem KR.text (S : MS) (a n : Nat) : KR r tx S (f_text S r tx a n) := ((KR.sa S 32 r _ (by omega)).tr (KR.sa _ 33 r _ (by omega))).tr (KR.txl _ _ _)
theorem KR.dg (S : MS) (a m : Nat) (mi : Bool) : ∀ k, KR r tx S (f_dg S a m mi k)
  | 0 => KR.rf S
  | k + 1 => by
    rw [f_dg]
    split
    · exact (KR.dg S a m mi k).tr (KR.bl _ _ _)
    · exact KR.dg S a m mi k
theorem KR.digS (S : MS) (a m : Nat) (sg : Bool) : KR r tx S (f_digS S a m sg) := (KR.dg _ _ _ _ _).tr (KR.si _ _ _)
theorem KR.nx (S : MS) : KR r tx S (f_nx S).2 := by
  unfold f_nx
  split
  · exact KR.si _ _ _
  · exact KR.bl _ _ _
theorem KR.d2 (S : MS) (i : Nat) : KR r tx S (f_d2 S i) := by
  unfold f_d2
  split
  · exact KR.bl _ _ _
  · exact KR.rf S
theorem KR.v2 (S : MS) (i : Nat) : KR r tx S (f_v2 S i) := by
  unfold f_v2
  split
  · exact KR.bl _ _ _
  · exact KR.rf S
theorem KR.d3 (S : MS) (b : Int32) (i : Nat) : KR r tx S (f_d3 S r b i) := by
  unfold f_d3
  split
  · unfold f_df1
    exact ((KR.sw S _ _).tr (KR.sa _ 28 r _ (by omega))).tr (KR.sa _ 29 r _ (by omega))
  · exact KR.rf S
theorem KR.dl : ∀ (t : Nat) (S : MS) (b : Int32) (i : Nat), KR r tx S (f_dl r t S b i)
  | 0, S, _, _ => KR.rf S
  | t + 1, S, b, i => by
    rw [f_dl]
    split
    · exact (((KR.nx S).tr (KR.d2 _ i)).tr (KR.d3 _ _ i)).tr (KR.dl t _ _ _)
    · exact KR.rf S
theorem KR.vl : ∀ (t : Nat) (S : MS) (b : Int32) (i : Nat), KR r tx S (f_vl r t S b i)
  | 0, S, _, _ => KR.rf S
  | t + 1, S, b, i => by
    rw [f_vl]
    split
    · refine (((KR.nx S).tr (KR.v2 _ i)).tr ?_).tr (KR.vl t _ _ _)
      generalize f_v2 (f_nx S).2 i = S1
      unfold f_v4
      split
      · exact (KR.sa S1 31 _ _ (by omega)).tr (KR.sa _ 30 r _ (by omega))
      · exact KR.rf S1
    · exact KR.rf S
theorem KR.value {cc : Nat} (er : f_r S = r) (et : f_tx S = tx) : KR r tx S (f_value S cc) := by
  unfold f_value
  rw [er, et]
  split
  · unfold f_valD
    split
    · split
      · split
        · refine (KR.si S 40 (nI (f_at S + 1))).tr ?_
          unfold f_v3
          split
          · exact (KR.sw _ _ _).tr (KR.text _ _ _)
          · split
            · exact (KR.digS _ _ _ _).tr (KR.sw _ _ _)
            · exact (KR.si _ _ _).tr (KR.sw _ _ _)
        · exact (KR.si _ _ _).tr (KR.bl _ _ _)
      · exact (KR.si _ _ _).tr (KR.bl _ _ _)
    · exact KR.bl _ _ _
  · unfold f_valN
    split
    · split
      · exact (KR.si S _ _).tr (KR.sw _ _ _)
      · exact (KR.digS S _ _ _).tr (KR.sw _ _ _)
    · exact KR.bl S _ _
theorem KR.rec0 (S : MS) (D : Int32) : KR r tx S (f_rec0 S r D) := by
  unfold f_rec0
  exact ((((((KR.sa S _ r _ (by omega)).tr (KR.sa _ _ r _ (by omega))).tr (KR.sw _ _ _)).tr (KR.sa _ _ r _ (by omega))).tr (KR.sa _ _ r _ (by omega))).tr (KR.sa _ _ r _ (by omega))).tr (KR.sa _ _ r _ (by omega))
/-- numbers that a record's parts leave -/
theorem dl_i {q : Nat} (h1 : q ≠ 40) (h2 : q ≠ 41) (h3 : q ≠ 36) : ∀ (t : Nat) (S : MS) (b : Int32) (i : Nat), (f_dl r t S b i).i q = S.i q
  | 0, S, _, _ => rfl
  | t + 1, S, b, i => by
    rw [f_dl]
    split
    · rw [dl_i h1 h2 h3 t, f_d3_i, f_d2_i _ _ h2 h3]
      unfold f_nx
      split
      · rw [MS.si_i, if_neg h1]
      · exact f_bl_i _ _ _ h2 h3
    · rfl
theorem vl_i {q : Nat} (h1 : q ≠ 40) (h2 : q ≠ 41) (h3 : q ≠ 36) : ∀ (t : Nat) (S : MS) (b : Int32) (i : Nat), (f_vl r t S b i).i q = S.i q
  | 0, S, _, _ => rfl
  | t + 1, S, b, i => by
    rw [f_vl]
    split
    · rw [vl_i h1 h2 h3 t, f_v4_i, f_v2_i _ _ h2 h3]
      unfold f_nx
      split
      · rw [MS.si_i, if_neg h1]
      · exact f_bl_i _ _ _ h2 h3
    · rfl
theorem dl_a {q : Nat} (h1 : q ≠ 28) (h2 : q ≠ 29) (j : Nat) : ∀ (t : Nat) (S : MS) (b : Int32) (i : Nat), (f_dl r t S b i).a q j = S.a q j
  | 0, S, _, _ => rfl
  | t + 1, S, b, i => by
    rw [f_dl]
    split
    · rw [dl_a h1 h2 j t]
      unfold f_d3
      split
      · unfold f_df1
        rw [sa_ne h2, sa_ne h1, MS.sw_a, f_d2_a, f_nx_a]
      · rw [f_d2_a, f_nx_a]
    · rfl
theorem vl_a {q : Nat} (h1 : q ≠ 30) (h2 : q ≠ 31) (j : Nat) : ∀ (t : Nat) (S : MS) (b : Int32) (i : Nat), (f_vl r t S b i).a q j = S.a q j
  | 0, S, _, _ => rfl
  | t + 1, S, b, i => by
    rw [f_vl]
    split
    · rw [vl_a h1 h2 j t]
      unfold f_v4
      split
      · rw [sa_ne h1, sa_ne h2, f_v2_a, f_nx_a]
      · rw [f_v2_a, f_nx_a]
    · rfl
end KR
/-! The list and the decoder's cells behind a record. -/
section Fin
variable {w : Wd} {c : Nat → ClassId} {a : Nat → Nat} {h h0 g g1 : PH} {li ra de p v b ba : Nat} {W : Nat → Prop} {κ κ' ω ω' : Nat → Nat} {S S' : MS} {lt lt' : Value}
theorem DK.fin (D : DK c li ra de h0 W κ g) (kp : κ p = 1) (kv : κ v = 2) (kl : lt' = .null ∨ ∃ t, lt' = .ref t ∧ κ t = 3) (hd : ∃ (fr : Value) (at_ en fa pl mo : Int32), g1 de = some (.inr (1, [.ref li, fr, .int at_, .int en, .int fa, .int pl, .int mo])) ∧ (mo = 0 ∨ mo = 1))
    (hp : ∃ (va sg : Int64) (co fu ta un ln : Int32) (vn : Nat), vn ≤ 11 ∧ g1 p = some (.inr (3, rdL va co fu sg ta un v (nI vn) lt' ln))) (hv : ∃ fv : Nat → Int32, g1 v = some (.inl (c 0, 11, .inl fv))) (hl : LK c g1 lt') (fr : ∀ q, q ≠ de → q ≠ p → q ≠ v → lt' ≠ .ref q → g1 q = g q) : DK c li ra de h0 W κ g1 := by
  obtain ⟨D1, D2, D3, D4, ⟨l1, l2, l3, l4, l5, l6⟩, D6⟩ := D
  have st : ∀ q, κ q = 0 → q ≠ de → g1 q = g q := fun q hq qd => fr q qd (fun e => by rw [e, kp] at hq; exact nomatch hq) (fun e => by rw [e, kv] at hq; exact nomatch hq) (fun e => by
    rcases kl with y | ⟨t, y1, y2⟩
    · rw [y] at e; exact nomatch e
    · rw [y1] at e
      have := Value.ref.inj e
      rw [← this, y2] at hq
      exact nomatch hq)
  refine ⟨by rw [st li l1 l5]; exact D1, by rw [st ra l2 l6]; exact D2, hd, fun q => ?_, ⟨l1, l2, l3, l4, l5, l6⟩, fun q hq => ?_⟩
  · by_cases qp : q = p
    · subst qp
      obtain ⟨va, sg, co, fu, ta, un, ln, vn, v1, v2⟩ := hp
      rw [kp]
      exact ⟨_, v2, va, sg, co, fu, ta, un, ln, v, vn, lt', rfl, kv, v1, kl⟩
    · by_cases qv : q = v
      · subst qv
        rw [kv]
        exact hv
      · by_cases qt : lt' = .ref q
        · rcases kl with y | ⟨t, y1, y2⟩
          · rw [y] at qt; exact nomatch qt
          · have e9 := Value.ref.inj (y1.symm.trans qt)
            subst e9
            rw [y2]
            rcases hl with z | ⟨t', m, fl, z1, z2, z3⟩
            · rw [y1] at z; exact nomatch z
            · have e9 := Value.ref.inj (y1.symm.trans z1)
              subst e9
              exact ⟨m, fl, z2, z3⟩
        · by_cases qd : q = de
          · subst qd
            rw [l3]
            have := D4 q
            rw [l3] at this
            exact this
          · rw [fr q qd qp qv qt]
            exact D4 q
  · obtain ⟨w1, w2, w3, w4, w5, w6⟩ := D6 q hq
    exact ⟨w1, w2, w3, w4, w5, by rw [st q w1 w4]; exact w6⟩
end Fin
