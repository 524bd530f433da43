/-! What each record of the list keeps to: its parts and its text. -/
def tq (q : Nat) : Bool := match q with
  | 30 => true | 32 => true | 33 => true | _ => false
theorem tq_ne {q k : Nat} (h : tq q = true) (hk : tq k = false) : q ≠ k := fun e => by rw [e, hk] at h; exact nomatch h
def RO (S : MS) (j : Nat) : Prop := (∃ nv, S.a 30 j = nI nv ∧ nv ≤ 11) ∧ ∃ n, S.a 33 j = nI n ∧ n ≤ 300 ∧ (0 < n → ∃ o, S.a 32 j = nI o ∧ o + n ≤ 26000)
theorem RO.same {S S' : MS} {j : Nat} (h : RO S j) (e : ∀ q, tq q = true → S'.a q j = S.a q j) : RO S' j := by
  unfold RO
  rw [e 30 rfl, e 32 rfl, e 33 rfl]
  exact h
/-- all three as they were -/
def ZS (S S' : MS) : Prop := ∀ q j, tq q = true → S'.a q j = S.a q j
/-- all but row r as they were -/
def ZR (r : Nat) (S S' : MS) : Prop := ∀ q j, tq q = true → j ≠ r → S'.a q j = S.a q j
theorem ZS.rf (S : MS) : ZS S S := fun _ _ _ => rfl
theorem ZS.tr {S S1 S2 : MS} (h : ZS S S1) (g : ZS S1 S2) : ZS S S2 := fun q j hq => (g q j hq).trans (h q j hq)
theorem ZR.tr {r : Nat} {S S1 S2 : MS} (h : ZR r S S1) (g : ZR r S1 S2) : ZR r S S2 := fun q j hq hj => (g q j hq hj).trans (h q j hq hj)
theorem ZS.r {S S' : MS} (h : ZS S S') (r : Nat) : ZR r S S' := fun q j hq _ => h q j hq
theorem ZS.ro {S S' : MS} {j : Nat} (h : ZS S S') (g : RO S j) : RO S' j := g.same (fun q hq => h q j hq)
theorem ZS.si (S : MS) (k : Nat) (v : Int32) : ZS S (S.si k v) := fun _ _ _ => rfl
theorem ZS.sw (S : MS) (k j : Nat) (v : Int64) : ZS S (S.sw k j v) := fun _ _ _ => rfl
theorem ZS.sa (S : MS) (k j : Nat) (v : Int32) (hk : tq k = false := by rfl) : ZS S (S.sa k j v) := fun _ _ hq => sa_ne (tq_ne hq hk)
theorem ZR.sa (S : MS) (k r : Nat) (v : Int32) : ZR r S (S.sa k r v) := fun q j _ hj => by rw [MS.sa_a, if_neg (fun e => hj e.2)]
theorem ZS.bl (S : MS) (x y : Int32) : ZS S (f_bl S x y) := fun _ _ _ => f_bl_a _ _ _ _ _
theorem ZS.txl (S : MS) (tx a : Nat) : ∀ k, ZS S (f_txl S tx a k)
  | 0 => ZS.rf S
  | k + 1 => by
    rw [f_txl]
    exact (((ZS.txl S tx a k).tr (ZS.sa _ 35 _ _)).tr (ZS.si _ _ _)).tr (ZS.si _ _ _)
theorem ZR.text (S : MS) (r tx a n : Nat) : ZR r S (f_text S r tx a n) := ((ZR.sa S 32 r _).tr (ZR.sa _ 33 r _)).tr ((ZS.txl _ _ _ _).r r)
theorem RO.text {S : MS} {r tx a n : Nat} (h : RO S r) (hn : n ≤ 300) (ht : tx + n ≤ 26000) : RO (f_text S r tx a n) r := by
  unfold f_text
  refine ZS.ro (ZS.txl _ tx a n) ⟨?_, n, ?_, hn, fun _ => ⟨tx, ?_, ht⟩⟩
  · rw [sa_ne (by decide), sa_ne (by decide)]; exact h.1
  · rw [MS.sa_a, if_pos ⟨rfl, rfl⟩]
  · rw [sa_ne (by decide), MS.sa_a, if_pos ⟨rfl, rfl⟩]
theorem ZS.dg (S : MS) (a m : Nat) (mi : Bool) (k : Nat) : ZS S (f_dg S a m mi k) := fun _ _ _ => f_dg_a _ _ _ _ _ _ _
theorem ZS.digS (S : MS) (a m : Nat) (sg : Bool) : ZS S (f_digS S a m sg) := fun _ _ _ => f_digS_a _ _ _ _ _ _
theorem ZS.nx (S : MS) : ZS S (f_nx S).2 := fun _ _ _ => f_nx_a _ _ _
theorem ZS.d2 (S : MS) (i : Nat) : ZS S (f_d2 S i) := fun _ _ _ => f_d2_a _ _ _ _
theorem ZS.v2 (S : MS) (i : Nat) : ZS S (f_v2 S i) := fun _ _ _ => f_v2_a _ _ _ _
theorem ZS.d3 (S : MS) (r : Nat) (b : Int32) (i : Nat) : ZS S (f_d3 S r b i) := by
  unfold f_d3
  split
  · unfold f_df1
    exact ((ZS.sw S _ _ _).tr (ZS.sa _ 28 r _)).tr (ZS.sa _ 29 r _)
  · exact ZS.rf S
theorem ZS.dl (r : Nat) : ∀ (t : Nat) (S : MS) (b : Int32) (i : Nat), ZS S (f_dl r t S b i)
  | 0, S, _, _ => ZS.rf S
  | t + 1, S, b, i => by
    rw [f_dl]
    split
    · exact (((ZS.nx S).tr (ZS.d2 _ i)).tr (ZS.d3 _ r _ i)).tr (ZS.dl r t _ _ _)
    · exact ZS.rf S
theorem ZR.vl (r : Nat) : ∀ (t : Nat) (S : MS) (b : Int32) (i : Nat), ZR r S (f_vl r t S b i)
  | 0, S, _, _ => (ZS.rf S).r r
  | t + 1, S, b, i => by
    rw [f_vl]
    split
    · refine ((((ZS.nx S).tr (ZS.v2 _ i)).r r).tr ?_).tr (ZR.vl r t _ _ _)
      generalize f_v2 (f_nx S).2 i = S1
      unfold f_v4
      split
      · exact ((ZS.sa S1 31 _ _).r r).tr (ZR.sa _ 30 r _)
      · exact (ZS.rf S1).r r
    · exact (ZS.rf S).r r
theorem RO.vl (r : Nat) : ∀ (t : Nat) (S : MS) (b : Int32) (i m : Nat), S.a 30 r = nI m → m ≤ i → RO S r → RO (f_vl r t S b i) r
  | 0, S, _, _, _, _, _, h => h
  | t + 1, S, b, i, m, hm, hi, h => by
    rw [f_vl]
    split
    · have z := (ZS.nx S).tr (ZS.v2 (f_nx S).2 i)
      have h1 : RO (f_v2 (f_nx S).2 i) r := z.ro h
      have m1 : (f_v2 (f_nx S).2 i).a 30 r = nI m := (z 30 r rfl).trans hm
      generalize f_v2 (f_nx S).2 i = S1 at h1 m1 ⊢
      generalize (f_nx S).1 = c
      unfold f_v4
      split
      · rename_i g
        have e : ((S1.sa 31 (11 * r + i) c).sa 30 r (S1.a 30 r + 1)).a 30 r = nI (m + 1) := by
          rw [MS.sa_a, if_pos ⟨rfl, rfl⟩, m1]; exact nI_1 m
        refine RO.vl r t _ _ (i + 1) (m + 1) e (by omega) ⟨⟨m + 1, e, by omega⟩, ?_⟩
        rw [sa_ne (by decide), sa_ne (by decide), sa_ne (by decide), sa_ne (by decide)]
        exact h1.2
      · exact RO.vl r t _ _ (i + 1) m m1 (by omega) h1
    · exact h
theorem ZS.valN (S : MS) (a e r cc n : Nat) : ZS S (f_valN S a e r cc n) := by
  unfold f_valN
  split
  · split
    · exact (ZS.si S _ _).tr (ZS.sw _ _ _ _)
    · exact (ZS.digS S _ _ _).tr (ZS.sw _ _ _ _)
  · exact ZS.bl S _ _
theorem ZR.valD (S : MS) (a e r tx V : Nat) : ZR r S (f_valD S a e r tx V) := by
  unfold f_valD
  split
  · refine ((ZS.si S 40 (nI (a + 1))).r r).tr ?_
    split
    · split
      · unfold f_v3
        split
        · exact ((ZS.sw _ _ _ _).r r).tr (ZR.text _ _ _ _ _)
        · split
          · exact ((ZS.digS _ _ _ _).tr (ZS.sw _ _ _ _)).r r
          · exact ((ZS.si _ _ _).tr (ZS.sw _ _ _ _)).r r
      · exact (ZS.bl _ _ _).r r
    · exact (ZS.bl _ _ _).r r
  · exact (ZS.bl S _ _).r r
theorem RO.valD {S : MS} {a e r tx V : Nat} (h : RO S r) (ht : tx ≤ 25000) : RO (f_valD S a e r tx V) r := by
  have h1 : RO (S.si 40 (nI (a + 1))) r := (ZS.si S 40 (nI (a + 1))).ro h
  unfold f_valD
  split
  · split
    · split
      · unfold f_v3
        split
        · rename_i g
          exact RO.text ((ZS.sw _ _ _ _).ro h1) (by omega) (by omega)
        · split
          · exact ((ZS.digS _ _ _ _).tr (ZS.sw _ _ _ _)).ro h1
          · exact ((ZS.si _ _ _).tr (ZS.sw _ _ _ _)).ro h1
      · exact (ZS.bl _ _ _).ro h1
    · exact (ZS.bl _ _ _).ro h1
  · exact (ZS.bl S _ _).ro h
theorem value_ok {S : MS} {cc r tx : Nat} (hr : f_r S = r) (ht : f_tx S = tx) (ht1 : tx ≤ 25000) : ZR r S (f_value S cc) ∧ (RO S r → RO (f_value S cc) r) := by
  unfold f_value
  rw [hr, ht]
  split
  · exact ⟨ZR.valD S _ _ _ _ _, fun h => h.valD ht1⟩
  · exact ⟨(ZS.valN S _ _ _ _ _).r r, fun h => (ZS.valN S _ _ _ _ _).ro h⟩
theorem ZR.rec0 (S : MS) (r : Nat) (D : Int32) : ZR r S (f_rec0 S r D) := by
  unfold f_rec0
  exact ((((((ZR.sa S _ r _).tr (ZR.sa _ _ r _)).tr ((ZS.sw _ _ _ _).r r)).tr (ZR.sa _ _ r _)).tr (ZR.sa _ _ r _)).tr (ZR.sa _ _ r _)).tr (ZR.sa _ _ r _)
theorem rec0_30 (S : MS) (r : Nat) (D : Int32) : (f_rec0 S r D).a 30 r = nI 0 := by
  unfold f_rec0
  rw [sa_ne (by decide), MS.sa_a, if_pos ⟨rfl, rfl⟩]
  rfl
theorem RO.rec0 (S : MS) (r : Nat) (D : Int32) : RO (f_rec0 S r D) r := by
  refine ⟨⟨0, rec0_30 S r D, by decide⟩, 0, ?_, by decide, fun h => absurd h (by decide)⟩
  unfold f_rec0
  rw [MS.sa_a, if_pos ⟨rfl, rfl⟩]
  rfl
/-- the list's rows, n of them -/
def QR (S : MS) (n : Nat) : Prop := ∀ j, j < n → RO S j
theorem QR.s {S S' : MS} {n : Nat} (h : QR S n) (z : ZS S S') : QR S' n := fun j hj => z.ro (h j hj)
theorem QR.up {S S' : MS} {r : Nat} (h : QR S r) (z : ZR r S S') (g : RO S' r) : QR S' (r + 1) := fun j hj => by
  by_cases e : j = r
  · rw [e]; exact g
  · exact (h j (by omega)).same (fun q hq => z q j hq e)
theorem QR.le {S : MS} {n m : Nat} (h : QR S n) (hm : m ≤ n) : QR S m := fun j hj => h j (by omega)
theorem QR.rcd {S : MS} {e r tx a : Nat} (h : GR S e r tx a) (he : e ≤ 256) (hlt : a < e) (hr : r ≤ 100) (ht : tx ≤ 240 * r) (hq : QR S r) : (QR (f_rcd S) r ∧ (f_rcd S).i 23 = nI r) ∨ (QR (f_rcd S) (r + 1) ∧ r < 100 ∧ ((f_rcd S).i 23 = nI r ∨ (f_rcd S).i 23 = nI (r + 1))) := by
  obtain ⟨e1, e2, -⟩ := h.at (by omega)
  have h2 : GR (S.si 40 (nI (a + 1))) e r tx (a + 1) := h.mv rfl (by omega) rfl rfl rfl
  have z2 : ZS S (S.si 40 (nI (a + 1))) := ZS.si S _ _
  unfold f_rcd
  dsimp only
  rw [e1, e2, h.r hr, h.tx (by omega)]
  split
  · exact .inl ⟨hq.s z2, h2.2.2.2.1⟩
  · split
    · have h3 : GR ((S.si 40 (nI (a + 1))).si 37 1) e r tx (a + 1) := h2.same rfl rfl rfl rfl
      split
      · exact .inl ⟨hq.s ((z2.tr (ZS.si _ _ _)).tr (ZS.bl _ _ _)), h3.bl.2.2.2.1⟩
      · exact .inl ⟨hq.s (z2.tr (ZS.si _ _ _)), h3.2.2.2.1⟩
    · split
      · exact .inl ⟨hq.s (z2.tr (ZS.bl _ _ _)), h2.bl.2.2.2.1⟩
      · split
        · exact .inl ⟨hq.s (z2.tr (ZS.bl _ _ _)), h2.bl.2.2.2.1⟩
        · rename_i h100
          have h4 : GR (f_rec0 (S.si 40 (nI (a + 1))) r (S.a 38 a)) e r tx (a + 1) := h2.same rfl rfl rfl rfl
          have z4 : ZR r S (f_rec0 (S.si 40 (nI (a + 1))) r (S.a 38 a)) := (z2.r r).tr (ZR.rec0 _ r _)
          have o4 := RO.rec0 (S.si 40 (nI (a + 1))) r (S.a 38 a)
          have m4 := rec0_30 (S.si 40 (nI (a + 1))) r (S.a 38 a)
          generalize f_rec0 (S.si 40 (nI (a + 1))) r (S.a 38 a) = S4 at h4 z4 o4 m4 ⊢
          refine .inr ?_
          split
          · refine ⟨hq.up (z4.tr ?_) ?_, by omega, .inr rfl⟩
            · unfold f_own
              exact (((ZS.sw _ _ _ _).r r).tr (ZR.text _ _ _ _ _)).tr ((ZS.si _ _ _).r r)
            · unfold f_own
              exact (ZS.si _ _ _).ro (RO.text ((ZS.sw _ _ _ _).ro o4) (by omega) (by omega))
          · generalize (S.a 38 a &&& 15).toNatClampNeg = cc
            obtain ⟨a5, -, h5⟩ := GR.dl (r0 := r) 12 (S.a 38 a) 0 h4 (by omega)
            have z5 := ZS.dl r 12 S4 (S.a 38 a) 0
            generalize f_dl r 12 S4 (S.a 38 a) 0 = S5 at h5 z5 ⊢
            obtain ⟨a6, -, h6⟩ := GR.vl (r0 := r) 13 128 0 h5 (by omega)
            have z6 := ZR.vl r 13 S5 128 0
            have o6 := RO.vl r 13 S5 128 0 0 ((z5 30 r rfl).trans m4) (by decide) (z5.ro o4)
            generalize f_vl r 13 S5 128 0 = S6 at h6 z6 o6 ⊢
            have z6' : ZR r S S6 := (z4.tr (z5.r r)).tr z6
            unfold f_ends
            split
            · rename_i g41
              obtain ⟨⟨a7, tx7, m1, -⟩, -⟩ := VR.value (cc := cc) h6 g41 he (by omega) (by omega)
              obtain ⟨z7, o7⟩ := value_ok (cc := cc) (h6.r hr) (h6.tx (by omega)) (by omega)
              generalize f_value S6 cc = S7 at m1 z7 o7 ⊢
              refine ⟨hq.up ((z6'.tr z7).tr ((ZS.si _ _ _).r r)) ((ZS.si _ _ _).ro (o7 o6)), by omega, ?_⟩
              rw [MS.si_i, if_pos rfl, m1.2.2.2.1]
              split
              · exact .inr (nI_1 r)
              · exact .inl (Int32.add_zero _)
            · exact ⟨hq.up z6' o6, by omega, .inl h6.2.2.2.1⟩
theorem QR.rl {e : Nat} (he : e ≤ 256) : ∀ (t : Nat) (S : MS) (r tx a : Nat), GR S e r tx a → 19 ≤ a → r ≤ 100 → tx ≤ 240 * r → QR S r → ∃ r', r ≤ r' ∧ r' ≤ 100 ∧ (f_rl t S).i 23 = nI r' ∧ QR (f_rl t S) r'
  | 0, S, r, tx, a, g, _, hr, ht, hq => ⟨r, Nat.le_refl r, hr, g.2.2.2.1, hq⟩
  | t + 1, S, r, tx, a, g, ha, hr, ht, hq => by
    rw [f_rl]
    split
    · rename_i h
      obtain ⟨e1, e2, -⟩ := g.at (by omega)
      rw [e1, e2] at h
      obtain ⟨⟨a1, r1, tx1, g1, g2, g3, g4⟩, -⟩ := RR.rcd g h.1 he ha h.2 hr ht
      have key : r ≤ r1 ∧ QR (f_rcd S) r1 := by
        rcases QR.rcd g he h.2 hr ht hq with ⟨q1, q2⟩ | ⟨q1, q2, q3⟩
        · have : r1 = r := (nI_eq (by omega) (by omega)).mp (g1.2.2.2.1.symm.trans q2)
          subst this
          exact ⟨Nat.le_refl _, q1⟩
        · rcases q3 with q3 | q3
          · have : r1 = r := (nI_eq (by omega) (by omega)).mp (g1.2.2.2.1.symm.trans q3)
            subst this
            exact ⟨Nat.le_refl _, q1.le (by omega)⟩
          · have : r1 = r + 1 := (nI_eq (by omega) (by omega)).mp (g1.2.2.2.1.symm.trans q3)
            subst this
            exact ⟨by omega, q1⟩
      obtain ⟨r2, k1, k2, k3, k4⟩ := QR.rl he t _ r1 tx1 a1 g1 (by omega) g3 g4 key.2
      exact ⟨r2, by omega, k2, k3, k4⟩
    · exact ⟨r, Nat.le_refl r, hr, g.2.2.2.1, hq⟩
