section
/-! The decoder against the model: a record. -/
section Item
variable {w : Wd} {c : Nat → ClassId} {a : Nat → Nat} {h h0 g g1 : PH} {b ba nb r p v : Nat} {W : Nat → Prop} {fb : Nat → Int32} {κ ω : Nat → Nat} {S S' Q : MS} {gr : Nat → Option Nat} {lt : Value} {va sg : Int64} {co fu ta un vn ln : Int32}
theorem ELx.kp (E : ELx c a κ ω S h r gr) (D : DK c (a 7) (a 8) (a 9) h0 W κ h) {j : Nat} (hj : gr j = some p) : κ p = 1 := by
  obtain ⟨-, -, -, -, x4, -⟩ := E
  obtain ⟨g', y1, y2⟩ := D.2.1
  rw [x4] at y1
  simp only [zR, Option.some.injEq, Sum.inl.injEq, Prod.mk.injEq, Sum.inr.injEq, true_and] at y1
  exact y2 j p (by rw [← y1]; exact hj)
theorem DA.d0 {i m : Nat} (A : DA fb nb S i m r) : DA0 fb nb S i m := by
  obtain ⟨A1, A2, A3, A4, A5, A6, A7, A8, A9, -⟩ := A
  exact ⟨A1, A2, A3, A4, A5, A6, A7, A8, A9⟩
theorem own_eq {tx e : Nat} (j : Nat) : f_own S r tx j e = (f_text (S.sw 24 r (nI (e - j)).toInt64) r tx j (e - j)).si 23 (nI (r + 1)) := rfl
theorem tx_lt {tx m j : Nat} (h1 : tx ≤ 240 * r) (h2 : r ≤ 100) (h3 : m ≤ 256) : tx + (m - j) < 2 ^ 31 := by omega
/-- what the model has read is a record: what is to be shown of it -/
def RQm (S : MS) (r m lo : Nat) (Q : MS) : Prop := (r < 100 → f_rcd S = Q.si 23 (nI (r + 1))) ∧ (r = 100 → ¬ (f_rcd S).i 41 = 0) ∧ KR r (f_tx S) S Q ∧ Q.i 41 = 0 ∧ Q.i 37 = S.i 37 ∧ (∃ j, lo ≤ j ∧ j ≤ m ∧ Q.i 40 = nI j) ∧ Q.i 39 = nI m ∧ (∀ j, Q.a 38 j = S.a 38 j) ∧ TZ (f_tx S) r Q ∧ ∃ k, k ≤ 11 ∧ Q.a 30 r = nI k
/-- the list behind a record that failed -/
theorem ELx.no (E : ELx c a κ ω S g r gr) (D : DK c (a 7) (a 8) (a 9) h0 W κ g) (hr : gr r = some p) (B : g p = some (.inr (3, rdL va co fu sg ta un v vn lt ln))) (L : LF c (a 9) p v b ba g lt) (G : DFx c (a 7) (a 9) p v b g lt g1) : ∃ κ' ω', ELx c a κ' ω' S g1 r gr ∧ DK c (a 7) (a 8) (a 9) h0 W κ' g1 := by
  obtain ⟨⟨at_, en, fa, pl, mo, d1, dm⟩, d2, d3, d4⟩ := G
  obtain ⟨κ', ω', y0, Dk, s7, s8, rl, sx⟩ := E.upd D hr B (Or.inl rfl) ⟨_, _, _, _, _, _, d1, dm⟩ d2 d3 (L.at d4) (fun q q1 q2 q3 _ => d4 q q1 q2 q3)
  obtain ⟨x0, x1, x2, x3, x4, x5, x6, x7⟩ := E
  exact ⟨κ', ω', ⟨y0, s7.trans x1, x2, x3, s8.trans x4, rl, sx S (KR.rf S), x7⟩, Dk⟩
/-- the list behind a record that was read, not yet taken -/
theorem ELx.yes (E : ELx c a κ ω S g r gr) (D : DK c (a 7) (a 8) (a 9) h0 W κ g) (hr : gr r = some p) (B : g p = some (.inr (3, rdL va co fu sg ta un v vn lt ln))) (G : DC c (a 7) (a 9) p v b g r lt Q g1) (hm : Q.i 37 = 0 ∨ Q.i 37 = 1) (hk : ∃ k, k ≤ 11 ∧ Q.a 30 r = nI k) : ∃ κ' ω', ELx c a κ' ω' S g1 r gr ∧ DK c (a 7) (a 8) (a 9) h0 W κ' g1 ∧ (∀ S', KR r (f_tx S) S S' → ∀ i, i < r → ∃ p, gr i = some p ∧ REx c g1 S' i p) := by
  obtain ⟨lt', g0, ⟨fa, pl, d1⟩, d2, ⟨fv, d3, -⟩, dk, -, d4⟩ := G
  obtain ⟨k, k1, k2⟩ := hk
  rw [k2] at d2
  obtain ⟨κ', ω', y0, Dk, s7, s8, rl, sx⟩ := E.upd D hr B g0 ⟨_, _, _, _, _, _, d1, hm⟩ ⟨_, _, _, _, _, _, _, k, k1, d2⟩ ⟨fv, d3⟩ dk d4
  obtain ⟨x0, x1, x2, x3, x4, x5, x6, x7⟩ := E
  exact ⟨κ', ω', ⟨y0, s7.trans x1, x2, x3, s8.trans x4, rl, sx S (KR.rf S), x7⟩, Dk, sx⟩
/-- .. and taken -/
theorem ELx.took (E : ELx c a κ ω S g1 r gr) (D : DK c (a 7) (a 8) (a 9) h0 W κ g1) (hr : gr r = some p) (r1 : r < 100) (G : DC c (a 7) (a 9) p v b g r lt Q g1) (sx : ∀ S', KR r (f_tx S) S S' → ∀ i, i < r → ∃ p, gr i = some p ∧ REx c g1 S' i p) (kq : KR r (f_tx S) S Q) (tz : TZ (f_tx S) r Q) : ELx c a κ ω (Q.si 23 (nI (r + 1))) (hs g1 (a 7) (.inr (4, [.ref (a 8), .int (nI (r + 1))]))) (r + 1) gr := by
  obtain ⟨x0, x1, x2, x3, x4, x5, x6, x7⟩ := E
  obtain ⟨l1, l2, l3, l4, l5, l6⟩ := D.2.2.2.2.1
  have w7 : ∀ q, ω q ≠ 0 → q ≠ a 7 := fun q hq e => x0 q hq (by rw [e]; exact l1)
  have tq : f_tx (Q.si 23 (nI (r + 1))) = f_tx Q := by unfold f_tx; rw [MS.si_i, if_neg (by decide)]
  refine ⟨x0, hs_self .., by rw [MS.si_i, if_pos rfl], by omega, by rw [hs_ne (Ne.symm l4)]; exact x4, fun i q hi hq => ?_, fun i hi => ?_, fun i hi j hj => ?_⟩
  · have L := x5 i q hi hq
    exact L.go (hs_ne (w7 q (by rw [L.1]; omega)))
  · by_cases e : i = r
    · subst e
      have L := x5 i p (by omega) hr
      obtain ⟨m1, va3, sg3, co3, fu3, ta3, un3, vn3, ln3, v3, lt3, m2, m3, m4⟩ := L
      obtain ⟨lt', -, -, d2, ⟨fv, d3, d3'⟩, dk, d5, -⟩ := G
      obtain ⟨e1, e2⟩ := rd_inj d2 m2
      subst e1 e2
      refine ⟨p, hr, v, lt', fv, by rw [hs_ne (w7 p (by omega))]; exact d2, by rw [hs_ne (w7 v (by omega))]; exact d3, d3', fun j hj => ?_⟩
      obtain ⟨t, mm, fl, t1, t2, t3, t4⟩ := d5 j hj
      exact ⟨t, mm, fl, t1, by rw [hs_ne (w7 t (by rw [m4 t t1]; omega))]; exact t2, t3, t4⟩
    · obtain ⟨q, q1, q2⟩ := sx (Q.si 23 (nI (r + 1))) (kq.tr (KR.si _ _ _)) i (by omega)
      exact ⟨q, q1, q2.go (x5 i q (by omega) q1) (fun y y1 _ => hs_ne (w7 y (by omega))) (fun _ _ => rfl) (fun _ _ => rfl) (fun _ _ => rfl) (fun _ _ => rfl)⟩
  · rw [tq]
    by_cases e : i = r
    · subst e
      exact tz.2 j hj
    · have e33 : (Q.si 23 (nI (r + 1))).a 33 i = S.a 33 i := kq.2.1 33 i (by omega) (by decide) (by decide) (by decide)
      have e32 : (Q.si 23 (nI (r + 1))).a 32 i = S.a 32 i := kq.2.1 32 i (by omega) (by decide) (by decide) (by decide)
      rw [e33] at hj
      rw [e32]
      exact Nat.lt_of_lt_of_le (x7 i (by omega) j hj) tz.1
variable {κ1 ω1 : Nat → Nat} {gr1 : Nat → Option Nat}
theorem i_no (hX : Wx w c) {z : Fx} (C : Cx z yX1_readItem.cls cX1_readItem gw) (Y : Cty z c) {i m tx : Nat} (E : Ct z w gw yX1_readItem (some .boolean) 6 (40 * 6) (IPo c a h0 W b fb nb (ilo fb i m) m S r)) (hn : z.nL = 5) (A : DA0 fb nb S i m) (hi : i < m) (er : f_r S = r) (h34 : S.i 34 = nI tx) (htx : tx ≤ 240 * r) (hv : ¬ S.a 38 i = 47 ∧ ¬ S.a 38 i = 31) (X1 : ELx c a κ1 ω1 S g r gr1) (Dk : DK c (a 7) (a 8) (a 9) h0 W κ1 g) (hgr : gr1 r = some p) (Bp : g p = some (.inr (3, rdL va co fu sg ta un v vn lt ln))) (L : LF c (a 9) p v b ba g lt) : ∀ (kc ks : Nat) (g2 : PH) (l4 : Option Value) (κ' ω' : Nat → Nat), ¬ (f_rcd S).i 41 = 0 → ELx c a κ' ω' S g2 r gr1 → DK c (a 7) (a 8) (a 9) h0 W κ' g2 → X z kc ks (EQ g2) 179 [some (.ref (a 9)), some (.int (nI i)), some (.int (S.a 38 i)), some (.ref p), l4] [] := by
  have hW := hX.1
  obtain ⟨A1, A2, A3, A4, A5, A6, A7, A8, A9⟩ := id A
  obtain ⟨-, fat, fen⟩ := WFp.of A3 A4 A5 (by omega)
  have kr := KR.rcd (S := S) er
  have r100 : r ≤ 100 := X1.2.2.2.1
  have s23 : S.i 23 = nI r := X1.2.2.1
  have et : f_tx S = tx := by unfold f_tx; rw [h34, nI_clamp (by omega)]
  have efi : fb i = S.a 38 i := A1 i (by omega)
  intro kc ks g2 l4 κ' ω' nf xx dd
  refine x_iconst (v := 0) C dX1_readItem_179 (by decide) ?_
  exact x_zret C E dX1_readItem_180 (by decide) (fun q e => by rw [show q = _ from e]; exact Or.inr ⟨rfl, nf, kr, κ', ω', gr1, xx, dd⟩)
theorem i_150n (hX : Wx w c) {z : Fx} (C : Cx z yX1_readItem.cls cX1_readItem gw) (Y : Cty z c) {i m tx : Nat} (E : Ct z w gw yX1_readItem (some .boolean) 6 (40 * 6) (IPo c a h0 W b fb nb (ilo fb i m) m S r)) (hn : z.nL = 5) (A : DA0 fb nb S i m) (hi : i < m) (er : f_r S = r) (h34 : S.i 34 = nI tx) (htx : tx ≤ 240 * r) (hv : ¬ S.a 38 i = 47 ∧ ¬ S.a 38 i = 31) (X1 : ELx c a κ1 ω1 S g r gr1) (Dk : DK c (a 7) (a 8) (a 9) h0 W κ1 g) (hgr : gr1 r = some p) (Bp : g p = some (.inr (3, rdL va co fu sg ta un v vn lt ln))) (L : LF c (a 9) p v b ba g lt) : ∀ (kc ks : Nat) (g2 : PH), ¬ (f_rcd S).i 41 = 0 → DFx c (a 7) (a 9) p v b g lt g2 → X z kc ks (EQ g2) 150 [some (.ref (a 9)), some (.int (nI i)), some (.int (S.a 38 i)), some (.ref p), some (.int 0)] [] := by
  have hW := hX.1
  obtain ⟨A1, A2, A3, A4, A5, A6, A7, A8, A9⟩ := id A
  obtain ⟨-, fat, fen⟩ := WFp.of A3 A4 A5 (by omega)
  have kr := KR.rcd (S := S) er
  have r100 : r ≤ 100 := X1.2.2.2.1
  have s23 : S.i 23 = nI r := X1.2.2.1
  have et : f_tx S = tx := by unfold f_tx; rw [h34, nI_clamp (by omega)]
  have efi : fb i = S.a 38 i := A1 i (by omega)
  have Tno := i_no hX C Y E hn A hi er h34 htx hv X1 Dk hgr Bp L
  intro kc ks g2 nf G
  refine x_iload C dX1_readItem_150 rfl ?_
  refine x_if_eq (tgt := 179) C dX1_readItem_152 (by decide) (fun _ => ?_) (fun q => absurd rfl q)
  obtain ⟨κ', ω', xx, dd⟩ := X1.no Dk hgr Bp L G
  exact Tno _ _ _ _ κ' ω' nf xx dd
theorem i_150y (hX : Wx w c) {z : Fx} (C : Cx z yX1_readItem.cls cX1_readItem gw) (Y : Cty z c) {i m tx : Nat} (E : Ct z w gw yX1_readItem (some .boolean) 6 (40 * 6) (IPo c a h0 W b fb nb (ilo fb i m) m S r)) (hn : z.nL = 5) (A : DA0 fb nb S i m) (hi : i < m) (er : f_r S = r) (h34 : S.i 34 = nI tx) (htx : tx ≤ 240 * r) (hv : ¬ S.a 38 i = 47 ∧ ¬ S.a 38 i = 31) (X1 : ELx c a κ1 ω1 S g r gr1) (Dk : DK c (a 7) (a 8) (a 9) h0 W κ1 g) (hgr : gr1 r = some p) (Bp : g p = some (.inr (3, rdL va co fu sg ta un v vn lt ln))) (L : LF c (a 9) p v b ba g lt) : ∀ (kc ks : Nat) (g2 : PH) (Q : MS), RQm S r m (ilo fb i m) Q → DC c (a 7) (a 9) p v b g r lt Q g2 → X z kc ks (EQ g2) 150 [some (.ref (a 9)), some (.int (nI i)), some (.int (S.a 38 i)), some (.ref p), some (.int 1)] [] := by
  have hW := hX.1
  obtain ⟨A1, A2, A3, A4, A5, A6, A7, A8, A9⟩ := id A
  obtain ⟨-, fat, fen⟩ := WFp.of A3 A4 A5 (by omega)
  have kr := KR.rcd (S := S) er
  have r100 : r ≤ 100 := X1.2.2.2.1
  have s23 : S.i 23 = nI r := X1.2.2.1
  have et : f_tx S = tx := by unfold f_tx; rw [h34, nI_clamp (by omega)]
  have efi : fb i = S.a 38 i := A1 i (by omega)
  have Tno := i_no hX C Y E hn A hi er h34 htx hv X1 Dk hgr Bp L
  intro kc ks g2 Q M G
  obtain ⟨m1, m2, m3, m4, m5, ⟨j, mj1, mj2, mj3⟩, m6, m7, m8, m9⟩ := M
  have q37 : Q.i 37 = 0 ∨ Q.i 37 = 1 := by rw [m5]; exact A9
  obtain ⟨κ', ω', xx, dd, sx⟩ := X1.yes Dk hgr Bp G q37 m9
  obtain ⟨lt9, -, ⟨fa9, pl9, Bd⟩, -⟩ := id G
  obtain ⟨l1, l2, l3, l4, l5, l6⟩ := dd.2.2.2.2.1
  refine x_iload C dX1_readItem_150 rfl ?_
  refine x_if_eq (tgt := 179) C dX1_readItem_152 (by decide) (fun q => absurd q (by decide)) (fun _ => ?_)
  refine x_aload_n C dX1_readItem_155 rfl ?_
  refine e_get C Y kd_X1 0 (by decide) wf_X1_32 dX1_readItem_156 Bd rfl ?_
  refine u_callV (st := []) C Y hW E.cs (l_takesX hW r100 xx.2.1) md_X4_takesDraft wi_X4_takesDraft ws_X4_takesDraft wm_X1_114 dX1_readItem_159 rfl (by decide) (by decide) xx.2.1 rfl rfl (by decide) ?_
  by_cases r1 : r < 100
  · rw [if_pos r1, if_pos r1]
    refine x_if_ne (tgt := 175) C dX1_readItem_162 (by decide) (fun _ => ?_) (fun q => absurd q (by decide))
    refine x_iconst (v := 1) C dX1_readItem_175 (by decide) ?_
    refine x_goto (tgt := 180) C dX1_readItem_176 (by decide) ?_
    refine x_zret C E dX1_readItem_180 (by decide) (fun q e => ?_)
    rw [show q = _ from e]
    have ef := m1 r1
    have xt := xx.took dd hgr r1 G sx m3 m8
    have tq : f_tx (Q.si 23 (nI (r + 1))) = f_tx Q := by unfold f_tx; rw [MS.si_i, if_neg (by decide)]
    rw [← ef] at xt
    refine Or.inl ⟨rfl, κ', ω', r + 1, gr1, j, ⟨xt, dd.putL (by omega), fa9, pl9, ?_⟩, mj1, ?_, kr, by omega, by rw [ef, tq]; exact m8.1⟩
    · rw [hs_ne (Ne.symm l5), ef]
      exact Bd
    · rw [ef]
      exact ⟨fun t ht => by rw [MS.si_a, m7]; exact A1 t ht, fun t => by rw [MS.si_a, m7]; exact A2 t, mj3, m6, mj2, A6, A7, m4, q37⟩
  · rw [if_neg r1, if_neg r1]
    refine x_if_ne (tgt := 175) C dX1_readItem_162 (by decide) (fun q => absurd rfl q) (fun _ => ?_)
    refine x_aload_n C dX1_readItem_165 rfl ?_
    refine x_bipush (v := 10) C dX1_readItem_166 (by decide) ?_
    refine x_iload_n C dX1_readItem_168 rfl ?_
    refine u_callV (st := []) C Y hW E.cs (d_wrong hW Bd 10 _) md_X1_wrong wi_X1_wrong ws_X1_wrong wm_X1_67 dX1_readItem_169 rfl (by decide) (by decide) Bd rfl rfl (by decide) ?_
    refine x_if_eq (tgt := 179) C dX1_readItem_172 (by decide) (fun _ => ?_) (fun q => absurd rfl q)
    have P := EH.putD (S' := S) ⟨xx, dd⟩ (LSx.rf S) (.ref b) (Q.i 40) (Q.i 39) 10 (nI i) (Q.i 37) q37
    exact Tno _ _ _ _ κ' ω' (m2 (by omega)) P.1 P.2
theorem i_71 (hX : Wx w c) {z : Fx} (C : Cx z yX1_readItem.cls cX1_readItem gw) (Y : Cty z c) {i m tx : Nat} (E : Ct z w gw yX1_readItem (some .boolean) 6 (40 * 6) (IPo c a h0 W b fb nb (ilo fb i m) m S r)) (hn : z.nL = 5) (A : DA0 fb nb S i m) (hi : i < m) (er : f_r S = r) (h34 : S.i 34 = nI tx) (htx : tx ≤ 240 * r) (hv : ¬ S.a 38 i = 47 ∧ ¬ S.a 38 i = 31) (X1 : ELx c a κ1 ω1 S g r gr1) (Dk : DK c (a 7) (a 8) (a 9) h0 W κ1 g) (hgr : gr1 r = some p) (Bp : g p = some (.inr (3, rdL va co fu sg ta un v vn lt ln))) (L : LF c (a 9) p v b ba g lt) (F : FX c (a 9) p v b ba g fb nb) (D2 : DX c (a 7) (a 9) p v b g r lt (f_rec0 (S.si 40 (nI (i + 1))) r (S.a 38 i)) g1) : X z 1 (itx fb i m) (EQ g1) 71 [some (.ref (a 9)), some (.int (nI i)), some (.int (S.a 38 i)), some (.ref p), none] [] := by
  have hW := hX.1
  obtain ⟨A1, A2, A3, A4, A5, A6, A7, A8, A9⟩ := id A
  obtain ⟨-, fat, fen⟩ := WFp.of A3 A4 A5 (by omega)
  have kr := KR.rcd (S := S) er
  have r100 : r ≤ 100 := X1.2.2.2.1
  have s23 : S.i 23 = nI r := X1.2.2.1
  have et : f_tx S = tx := by unfold f_tx; rw [h34, nI_clamp (by omega)]
  have efi : fb i = S.a 38 i := A1 i (by omega)
  have AA2 : DA fb nb (f_rec0 (S.si 40 (nI (i + 1))) r (S.a 38 i)) (i + 1) m r := ⟨fun j hj => by rw [rec0_38]; exact A1 j hj, fun j => by rw [rec0_38]; exact A2 j, rfl, A4, hi, A6, A7, A8, A9, ⟨0, by decide, rec0_30 _ _ _⟩⟩
  have t33 : (f_rec0 (S.si 40 (nI (i + 1))) r (S.a 38 i)).a 33 r = 0 := rec0_33
  have t25 : (f_rec0 (S.si 40 (nI (i + 1))) r (S.a 38 i)).a 25 r = S.a 38 i &&& 15 := rec0_25
  have t30 : (f_rec0 (S.si 40 (nI (i + 1))) r (S.a 38 i)).a 30 r = nI 0 := rec0_30 _ _ _
  have t23 : (f_rec0 (S.si 40 (nI (i + 1))) r (S.a 38 i)).i 23 = nI r := s23
  have t34 : (f_rec0 (S.si 40 (nI (i + 1))) r (S.a 38 i)).i 34 = nI tx := h34
  have t37 : (f_rec0 (S.si 40 (nI (i + 1))) r (S.a 38 i)).i 37 = S.i 37 := rfl
  have t38 : ∀ j, (f_rec0 (S.si 40 (nI (i + 1))) r (S.a 38 i)).a 38 j = S.a 38 j := fun j => rec0_38 j
  have tkr : KR r tx S (f_rec0 (S.si 40 (nI (i + 1))) r (S.a 38 i)) := (KR.si _ _ _).tr (KR.rec0 _ _)
  have T150n := i_150n hX C Y E hn A hi er h34 htx hv X1 Dk hgr Bp L
  have T150y := i_150y hX C Y E hn A hi er h34 htx hv X1 Dk hgr Bp L
  have town : r < 100 → S.a 38 i = 15 → f_rcd S = (f_text ((f_rec0 (S.si 40 (nI (i + 1))) r (S.a 38 i)).sw 24 r (nI (m - (i + 1))).toInt64) r tx (i + 1) (m - (i + 1))).si 23 (nI (r + 1)) := fun r1 q15 => by
    rw [rcd_own fat fen er r1 q15, et, q15, own_eq]
  have rno : ¬ S.a 38 i &&& 15 = 15 → (S.a 38 i &&& 15 = 8 ∨ ¬ (f_ends (f_vl r 13 (f_dl r 12 (f_rec0 (S.si 40 (nI (i + 1))) r (S.a 38 i)) (S.a 38 i) 0) 128 0) (S.a 38 i &&& 15).toNatClampNeg r).i 41 = 0) → ¬ (f_rcd S).i 41 = 0 := fun c15 y => rcd_no fat er r100 A8 hv.1 hv.2 c15 y
  have ryes : ¬ S.a 38 i &&& 15 = 15 → r < 100 → ¬ S.a 38 i &&& 15 = 8 → f_rcd S = f_ends (f_vl r 13 (f_dl r 12 (f_rec0 (S.si 40 (nI (i + 1))) r (S.a 38 i)) (S.a 38 i) 0) 128 0) (S.a 38 i &&& 15).toNatClampNeg r := fun c15 r1 c8 => rcd_ext fat er r1 hv.1 hv.2 c8 c15
  generalize hS2 : f_rec0 (S.si 40 (nI (i + 1))) r (S.a 38 i) = S2 at D2 AA2 t33 t25 t30 t23 t34 t37 t38 tkr rno ryes town
  clear hS2
  obtain ⟨⟨fa1, pl1, B⟩, Bp2, -⟩ := id D2
  refine x_iload_n C dX1_readItem_71 rfl ?_
  refine x_bipush (v := 15) C dX1_readItem_72 (by decide) ?_
  refine x_icmp_ne (tgt := 96) C dX1_readItem_74 (by decide) (fun q15 => ?_) (fun q15 => ?_)
  rotate_left
  · have q15f : fb i = 15 := efi.trans q15
    have ei : itx fb i m = m - (i + 1) := if_pos q15f
    have el : ilo fb i m = m := if_pos q15f
    have eat : nI m - nI (i + 1) = nI (m - (i + 1)) := nI_sub' (show i + 1 ≤ m by omega)
    refine x_aload_n C dX1_readItem_77 rfl ?_
    refine x_aload_n C dX1_readItem_78 rfl ?_
    refine x_aload_n C dX1_readItem_79 rfl ?_
    refine e_get C Y kd_X1 3 (by decide) wf_X1_15 dX1_readItem_80 B rfl ?_
    refine x_aload_n C dX1_readItem_83 rfl ?_
    refine e_get C Y kd_X1 2 (by decide) wf_X1_9 dX1_readItem_84 B rfl ?_
    refine x_isub C dX1_readItem_87 ?_
    rw [AA2.2.2.1, AA2.2.2.2.1, eat]
    refine X.room (kc' := 0 + 1) (ks' := 0 + min (m - (i + 1)) (m - (i + 1))) ?_ (by omega) (by omega)
    refine k_callR (kc := 0) (ks := 0) (st := []) C Y hW E.cs (d_textX hX F L D2 (s := m - (i + 1)) (tx := tx) AA2 (by omega) (by omega)) rfl md_X1_readText wi_X1_readText ws_X1_readText wm_X1_97 dX1_readItem_88 rfl (by decide) (by decide) B rfl rfl (by decide) (fun rr g2 hg => ?_)
    rcases hg with ⟨rfl, j1, Dg⟩ | ⟨rfl, j1, Dg⟩
    · refine o_istoreE (L' := [some _, some _, some _, some _, some _]) C dX1_readItem_91 (by rw [hn]; decide) rfl ?_
      refine x_goto (tgt := 150) C dX1_readItem_93 (by decide) ?_
      refine T150y _ _ _ _ ⟨fun r1 => ?_, fun r2 => rcd_full fat (er.trans r2) hv.1 hv.2 A8, ?_, ?_, ?_, ⟨m, by omega, Nat.le_refl _, ?_⟩, ?_, fun j => ?_, ?_, ?_⟩ Dg
      · exact town r1 q15
      · rw [et]
        exact (tkr.tr (KR.sw _ _ _)).tr (KR.text _ _ _)
      · rw [text_i (by decide) (by decide), MS.sw_i]; exact AA2.2.2.2.2.2.2.2.1
      · rw [text_i (by decide) (by decide), MS.sw_i]; exact t37
      · rw [text_40 (show (S2.sw 24 r (nI (m - (i + 1))).toInt64).i 40 = nI (i + 1) by rw [MS.sw_i]; exact AA2.2.2.1)]
        exact congrArg nI (Nat.add_sub_of_le hi)
      · rw [text_i (by decide) (by decide), MS.sw_i]; exact AA2.2.2.2.1
      · rw [text_a (by decide) (by decide) (by decide), MS.sw_a]; exact t38 j
      · rw [et]
        exact TZ.text (by rw [MS.sw_i]; exact t34) (tx_lt htx r100 A6)
      · exact ⟨0, by decide, by rw [text_a (by decide) (by decide) (by decide), MS.sw_a]; exact t30⟩
    · exact absurd (show i + 1 + (m - (i + 1)) ≤ m by omega) j1
  have q15f : ¬ fb i = 15 := fun e => q15 (efi.symm.trans e)
  have ei : itx fb i m = min (tsv fb (S.a 38 i &&& 15) (vpos fb i)) (m - vpos fb i) := by unfold itx; rw [if_neg q15f, efi]
  have el : ilo fb i m = vpos fb i + tsv fb (S.a 38 i &&& 15) (vpos fb i) := by unfold ilo; rw [if_neg q15f, efi]
  rw [t25] at Bp2
  refine x_aload_n C dX1_readItem_96 rfl ?_
  refine u_callV (st := []) C Y hW E.cs (q_codeOf hW Bp2) md_X3_codeOf wi_X3_codeOf ws_X3_codeOf wm_X1_101 dX1_readItem_97 rfl (by decide) (by decide) Bp2 rfl rfl (by decide) ?_
  refine x_bipush (v := 15) C dX1_readItem_100 (by decide) ?_
  refine x_icmp_ne (tgt := 117) C dX1_readItem_102 (by decide) (fun c15 => ?_) (fun c15 => ?_)
  rotate_left
  · refine x_aload_n C dX1_readItem_105 rfl ?_
    refine x_bipush (v := 9) C dX1_readItem_106 (by decide) ?_
    refine x_iload_n C dX1_readItem_108 rfl ?_
    refine u_callV (st := []) C Y hW E.cs (d_wrong hW B 9 _) md_X1_wrong wi_X1_wrong ws_X1_wrong wm_X1_67 dX1_readItem_109 rfl (by decide) (by decide) B rfl rfl (by decide) ?_
    refine o_istoreE (L' := [some _, some _, some _, some _, some _]) C dX1_readItem_112 (by rw [hn]; decide) rfl ?_
    refine x_goto (tgt := 150) C dX1_readItem_114 (by decide) ?_
    exact T150n _ _ _ (rcd_bad fat hv.1 hv.2 A8 (Or.inr ⟨c15, q15⟩)) ((D2.df AA2).setD F _ _ _ _ _ AA2.2.2.2.2.2.2.2.2.1)
  have T147 : ∀ (kc ks : Nat) (g2 : PH), ¬ (f_rcd S).i 41 = 0 → DFx c (a 7) (a 9) p v b g lt g2 → X z kc ks (EQ g2) 147 [some (.ref (a 9)), some (.int (nI i)), some (.int (S.a 38 i)), some (.ref p), none] [] := fun kc ks g2 nf G => by
    refine x_iconst (v := 0) C dX1_readItem_147 (by decide) ?_
    refine o_istoreE (L' := [some _, some _, some _, some _, some _]) C dX1_readItem_148 (by rw [hn]; decide) rfl ?_
    exact T150n _ _ _ nf G
  have rno := rno c15
  have ryes := ryes c15
  obtain ⟨cc, cc1, ecc⟩ := byt15 (A2 i)
  have cc14 : cc ≤ 14 := by
    by_cases y : cc = 15
    · rw [y] at ecc; exact absurd ecc c15
    · omega
  have ecl : (S.a 38 i &&& 15).toNatClampNeg = cc := by rw [ecc, nI_clamp (by omega)]
  rw [ecl] at rno ryes
  refine x_aload_n C dX1_readItem_117 rfl ?_
  refine x_aload_n C dX1_readItem_118 rfl ?_
  refine x_iload_n C dX1_readItem_119 rfl ?_
  refine k_callR (kc := 1) (ks := itx fb i m) (mc' := 0) (ms' := 0) (st := []) C Y hW E.cs (d_difesX hW F D2 AA2 (A2 i)) rfl md_X1_readDifes wi_X1_readDifes ws_X1_readDifes wm_X1_104 dX1_readItem_120 rfl (by decide) (by decide) B rfl rfl (by decide) (fun rr g2 hg => ?_)
  have u33 : (f_dl r 12 S2 (S.a 38 i) 0).a 33 r = 0 := by rw [dl_a (by decide) (by decide)]; exact t33
  have u25 : (f_dl r 12 S2 (S.a 38 i) 0).a 25 r = S.a 38 i &&& 15 := by rw [dl_a (by decide) (by decide)]; exact t25
  have u30 : (f_dl r 12 S2 (S.a 38 i) 0).a 30 r = nI 0 := by rw [dl_a (by decide) (by decide)]; exact t30
  have u23 : (f_dl r 12 S2 (S.a 38 i) 0).i 23 = nI r := by rw [dl_i (by decide) (by decide) (by decide)]; exact t23
  have u34 : (f_dl r 12 S2 (S.a 38 i) 0).i 34 = nI tx := by rw [dl_i (by decide) (by decide) (by decide)]; exact t34
  have u37 : (f_dl r 12 S2 (S.a 38 i) 0).i 37 = S.i 37 := by rw [dl_i (by decide) (by decide) (by decide)]; exact t37
  have u38 : ∀ j, (f_dl r 12 S2 (S.a 38 i) 0).a 38 j = S.a 38 j := fun j => by rw [dl_a (by decide) (by decide)]; exact t38 j
  have ukr : KR r tx S (f_dl r 12 S2 (S.a 38 i) 0) := tkr.tr (KR.dl _ _ _ _)
  generalize f_dl r 12 S2 (S.a 38 i) 0 = S3 at hg u33 u25 u30 u23 u34 u37 u38 ukr rno ryes
  rcases hg with ⟨rfl, A3', -, D3⟩ | ⟨rfl, n3, D3⟩
  rotate_left
  · refine x_if_eq (tgt := 147) C dX1_readItem_123 (by decide) (fun _ => ?_) (fun q => absurd rfl q)
    exact T147 _ _ _ (rno (Or.inr (by rw [vl_stop n3]; unfold f_ends; rw [if_neg n3]; exact n3))) D3
  refine x_if_eq (tgt := 147) C dX1_readItem_123 (by decide) (fun q => absurd q (by decide)) (fun _ => ?_)
  obtain ⟨⟨fa3, pl3, B3⟩, -⟩ := id D3
  refine x_aload_n C dX1_readItem_126 rfl ?_
  refine x_aload_n C dX1_readItem_127 rfl ?_
  refine k_callR (kc := 1) (ks := itx fb i m) (mc' := 0) (ms' := 0) (st := []) C Y hW E.cs (d_vifsX hW F D3 A3' u30) rfl md_X1_readVifs wi_X1_readVifs ws_X1_readVifs wm_X1_107 dX1_readItem_128 rfl (by decide) (by decide) B3 rfl rfl (by decide) (fun rr g2 hg => ?_)
  have v33 : (f_vl r 13 S3 128 0).a 33 r = 0 := by rw [vl_a (by decide) (by decide)]; exact u33
  have v25 : (f_vl r 13 S3 128 0).a 25 r = S.a 38 i &&& 15 := by rw [vl_a (by decide) (by decide)]; exact u25
  have v23 : (f_vl r 13 S3 128 0).i 23 = nI r := by rw [vl_i (by decide) (by decide) (by decide)]; exact u23
  have v34 : (f_vl r 13 S3 128 0).i 34 = nI tx := by rw [vl_i (by decide) (by decide) (by decide)]; exact u34
  have v37 : (f_vl r 13 S3 128 0).i 37 = S.i 37 := by rw [vl_i (by decide) (by decide) (by decide)]; exact u37
  have v38 : ∀ j, (f_vl r 13 S3 128 0).a 38 j = S.a 38 j := fun j => by rw [vl_a (by decide) (by decide)]; exact u38 j
  have vkr : KR r tx S (f_vl r 13 S3 128 0) := ukr.tr (KR.vl _ _ _ _)
  generalize f_vl r 13 S3 128 0 = S4 at hg v33 v25 v23 v34 v37 v38 vkr rno ryes
  rcases hg with ⟨rfl, A4', D4⟩ | ⟨rfl, n4, D4⟩
  rotate_left
  · refine x_if_eq (tgt := 147) C dX1_readItem_131 (by decide) (fun _ => ?_) (fun q => absurd rfl q)
    exact T147 _ _ _ (rno (Or.inr (by unfold f_ends; rw [if_neg n4]; exact n4))) D4
  refine x_if_eq (tgt := 147) C dX1_readItem_131 (by decide) (fun q => absurd q (by decide)) (fun _ => ?_)
  obtain ⟨⟨fa4, pl4, B4⟩, -⟩ := id D4
  have A48 : S4.i 41 = 0 := A4'.2.2.2.2.2.2.2.1
  have evp : exD fb 12 128 (exD fb 11 (S.a 38 i) (i + 1)) = vpos fb i := by unfold vpos; rw [efi]
  rw [evp] at A4'
  have fr4 : f_r S4 = r := by unfold f_r; rw [v23, nI_clamp (by omega)]
  have ft4 : f_tx S4 = tx := by unfold f_tx; rw [v34, nI_clamp (by omega)]
  refine x_aload_n C dX1_readItem_134 rfl ?_
  refine x_aload_n C dX1_readItem_135 rfl ?_
  refine x_iload_n C dX1_readItem_136 rfl ?_
  rw [ecc] at ei el
  refine X.room (kc' := 0 + 1) (ks' := 0 + min (tsv fb (nI cc) (vpos fb i)) (m - vpos fb i)) ?_ (by omega) (by omega)
  refine k_callR (kc := 0) (ks := 0) (st := []) C Y hW E.cs (d_valueX hX F L D4 A4' v33 (v25.trans ecc) cc14 fr4 (by omega) (nI i)) rfl md_X1_readValue wi_X1_readValue ws_X1_readValue wm_X1_111 dX1_readItem_137 rfl (by decide) (by decide) B4 rfl rfl (by decide) (fun rr g2 hg => ?_)
  have c8 : S.a 38 i &&& 15 = 8 ↔ cc = 8 := by rw [ecc]; exact nI_eq (b := 8) (by omega) (by decide)
  have fe : (f_value S4 cc).i 41 = 0 → f_ends S4 cc r = (f_value S4 cc).si 23 (nI (r + 1)) := fun y => by
    unfold f_ends
    rw [if_pos A48, if_pos y, value_i (by decide) (by decide) (by decide) (by decide), v23]
    exact congrArg _ (nI_1 r)
  rcases hg with ⟨rfl, n8, q41, ⟨j, j1, j2, j3⟩, G⟩ | ⟨rfl, nq, G⟩
  · refine x_if_eq (tgt := 147) C dX1_readItem_140 (by decide) (fun q => absurd q (by decide)) (fun _ => ?_)
    refine x_iconst (v := 1) C dX1_readItem_143 (by decide) ?_
    refine x_goto (tgt := 148) C dX1_readItem_144 (by decide) ?_
    refine o_istoreE (L' := [some _, some _, some _, some _, some _]) C dX1_readItem_148 (by rw [hn]; decide) rfl ?_
    obtain ⟨k, k1, k2⟩ := A4'.2.2.2.2.2.2.2.2.2
    refine T150y _ _ _ _ ⟨fun r1 => (ryes r1 (fun y => n8 (c8.mp y))).trans (fe q41), fun r2 => rcd_full fat (er.trans r2) hv.1 hv.2 A8, ?_, q41, ?_, ⟨j, by omega, j2, j3⟩, ?_, fun j => ?_, ?_, ⟨k, k1, by rw [value_a (by decide) (by decide) (by decide)]; exact k2⟩⟩ G
    · rw [et]
      exact vkr.tr (KR.value fr4 ft4)
    · rw [value_i (by decide) (by decide) (by decide) (by decide)]; exact v37
    · rw [value_i (by decide) (by decide) (by decide) (by decide)]; exact A4'.2.2.2.1
    · rw [value_a (by decide) (by decide) (by decide)]; exact v38 j
    · rw [et]
      exact TZ.value fr4 v34 (by omega) v33 (fun j => by rw [v38]; exact A2 j)
  · refine x_if_eq (tgt := 147) C dX1_readItem_140 (by decide) (fun _ => ?_) (fun q => absurd rfl q)
    refine T147 _ _ _ (rno (nq.imp c8.mpr (fun y => ?_))) G
    unfold f_ends
    rw [if_pos A48, if_neg y, MS.si_i, if_neg (by decide)]
    exact y
theorem d_itemX (hX : Wx w c) (R : RW c h0 b ba fb nb) (o1 : W b) (o2 : W ba) (H : EH c a h0 W b κ ω S r gr h) {i m tx : Nat} (A : DA0 fb nb S i m) (hi : i < m) (er : f_r S = r) (h34 : S.i 34 = nI tx) (htx : tx ≤ 240 * r) (hv : ¬ fb i = 47 ∧ ¬ fb i = 31) : T w gw yX1_readItem cX1_readItem 5 (some .boolean) 6 (40 * 6) 3 (21 + itx fb i m) [.ref (a 9)] (EQ h) (IPo c a h0 W b fb nb (ilo fb i m) m S r) := by
  have hW := hX.1
  refine TA.intro hW rfl (by decide +kernel) (Nat.le_of_ble_eq_true rfl) (fun z C Y E hn h1 hA => ?_)
  rw [show h1 = h from hA]
  clear hA
  obtain ⟨XE, D, fa, pl, B⟩ := id H
  obtain ⟨A1, A2, A3, A4, A5, A6, A7, A8, A9⟩ := id A
  obtain ⟨-, fat, fen⟩ := WFp.of A3 A4 A5 (by omega)
  have Rh := D.row R o1 o2
  have kr := KR.rcd (S := S) er
  have r100 : r ≤ 100 := XE.2.2.2.1
  have s23 : S.i 23 = nI r := XE.2.2.1
  have et : f_tx S = tx := by unfold f_tx; rw [h34, nI_clamp (by omega)]
  have tk := d_take hW B Rh
  rw [A3, rAt_in (show i < nb by omega) Rh.2.2.2, A1 i (by omega), nI_1] at tk
  have efi : fb i = S.a 38 i := A1 i (by omega)
  rw [efi] at hv
  refine x_aload_n C dX1_readItem_0 rfl ?_
  refine e_get C Y kd_X1 2 (by decide) wf_X1_9 dX1_readItem_1 B rfl ?_
  rw [A3]
  refine o_istore_nE (L' := [some _, some _, none, none, none]) C dX1_readItem_4 (by rw [hn]; decide) rfl ?_
  refine x_aload_n C dX1_readItem_5 rfl ?_
  refine u_callV (st := []) C Y hW E.cs tk md_X1_take wi_X1_take ws_X1_take wm_X1_85 dX1_readItem_6 rfl (by decide) (by decide) B rfl rfl (by decide) ?_
  have P1 := EH.putD (S' := S) ⟨XE, D⟩ (LSx.rf S) (.ref b) (nI (i + 1)) (S.i 39) fa pl (S.i 37) A9
  have B1 : hs h (a 9) (.inr (1, [.ref (a 7), .ref b, .int (nI (i + 1)), .int (S.i 39), .int fa, .int pl, .int (S.i 37)])) (a 9) = some (.inr (1, [.ref (a 7), .ref b, .int (nI (i + 1)), .int (S.i 39), .int fa, .int pl, .int (S.i 37)])) := hs_self ..
  change X z _ _ (EQ (hs h (a 9) (.inr (1, [.ref (a 7), .ref b, .int (nI (i + 1)), .int (S.i 39), .int fa, .int pl, .int (S.i 37)])))) _ _ _
  generalize hs h (a 9) (.inr (1, [.ref (a 7), .ref b, .int (nI (i + 1)), .int (S.i 39), .int fa, .int pl, .int (S.i 37)])) = h2 at P1 B1 ⊢
  clear B H tk Rh XE D
  obtain ⟨XE, D⟩ := P1
  refine o_istore_nE (L' := [some _, some _, some _, none, none]) C dX1_readItem_9 (by rw [hn]; decide) rfl ?_
  refine x_iload_n C dX1_readItem_10 rfl ?_
  refine x_bipush (v := 47) C dX1_readItem_11 (by decide) ?_
  refine x_icmp_ne (tgt := 18) C dX1_readItem_13 (by decide) (fun _ => ?_) (fun q => absurd q hv.1)
  refine x_iload_n C dX1_readItem_18 rfl ?_
  refine x_bipush (v := 31) C dX1_readItem_19 (by decide) ?_
  refine x_icmp_ne (tgt := 58) C dX1_readItem_21 (by decide) (fun _ => ?_) (fun q => absurd q hv.2)
  refine x_aload_n C dX1_readItem_58 rfl ?_
  refine e_get C Y kd_X1 0 (by decide) wf_X1_32 dX1_readItem_59 B1 rfl ?_
  refine X.room (kc' := 1 + 2) (ks' := itx fb i m + 21) ?_ (by omega) (by omega)
  refine k_callR (kc := 1) (ks := itx fb i m) (st := []) C Y hW E.cs (l_draftX hX XE D) rfl md_X4_draft wi_X4_draft ws_X4_draft wm_X1_88 dX1_readItem_62 rfl (by decide) (by decide) XE.2.1 rfl rfl (by decide) (fun rr g hg => ?_)
  obtain ⟨κ1, ω1, gr1, p, rfl, hgr, X1, Dk, hde⟩ := hg
  rw [B1] at hde
  have kp := X1.kp Dk hgr
  obtain ⟨ed, e1, va, sg, co, fu, ta, un, ln, v, vn, lt, ed2, kv, v2, kl⟩ := Dk.rd kp
  subst ed2
  have Bp := e1
  obtain ⟨fv, ev⟩ := Dk.vf kv
  have wb := Dk.2.2.2.2.2 b o1
  have wba := Dk.2.2.2.2.2 ba o2
  have np : ∀ q, κ1 q = 0 → q ≠ p ∧ q ≠ v := fun q hq => ⟨fun e => absurd hq (by rw [e, kp]; decide), fun e => absurd hq (by rw [e, kv]; decide)⟩
  have ndp : a 9 ≠ p := Dk.pd (by omega)
  have ndv : a 9 ≠ v := Dk.pd (by omega)
  have npv : p ≠ v := fun e => by rw [e, kv] at kp; exact nomatch kp
  have F : FX c (a 9) p v b ba g fb nb := ⟨⟨ndp, ndv, npv⟩, ⟨wb.2.2.2.1, (np b wb.1).1, (np b wb.1).2⟩, ⟨wba.2.2.2.1, (np ba wba.1).1, (np ba wba.1).2⟩, Dk.row R o1 o2⟩
  have L : LF c (a 9) p v b ba g lt := by
    rcases kl with y | ⟨t, y1, y2⟩
    · exact ⟨Or.inl y, fun t et => by rw [y] at et; exact nomatch et⟩
    · obtain ⟨mm, ft, m1, m2⟩ := Dk.lt y2
      refine ⟨Or.inr ⟨t, mm, ft, y1, m1, m2⟩, fun t' et => ?_⟩
      have := Value.ref.inj (y1.symm.trans et)
      subst this
      exact ⟨Ne.symm (Dk.pd (by omega)), fun e => by rw [e, kp] at y2; exact absurd y2 (by decide), fun e => by rw [e, kv] at y2; exact absurd y2 (by decide), fun e => by rw [e, wb.1] at y2; exact absurd y2 (by decide), fun e => by rw [e, wba.1] at y2; exact absurd y2 (by decide)⟩
  refine o_astore_nE (L' := [some _, some _, some _, some _, none]) C dX1_readItem_65 (by rw [hn]; decide) rfl ?_
  refine x_aload_n C dX1_readItem_66 rfl ?_
  refine x_iload_n C dX1_readItem_67 rfl ?_
  refine u_callV (st := []) C Y hW E.cs (q_begin hW e1 (S.a 38 i)) md_X3_begin wi_X3_begin ws_X3_begin wm_X1_92 dX1_readItem_68 rfl (by decide) (by decide) e1 rfl rfl (by decide) ?_
  have D2 : DX c (a 7) (a 9) p v b g r lt (f_rec0 (S.si 40 (nI (i + 1))) r (S.a 38 i)) (hs g p (.inr (3, rdL 0 (S.a 38 i &&& 15) ((S.a 38 i >>> ((4 : Int32) &&& 31)) &&& 3) ((S.a 38 i >>> ((6 : Int32) &&& 31)) &&& 1).toInt64 0 0 v 0 lt 0))) := by
    refine ⟨⟨fa, pl, by rw [hs_ne ndp, hde]; rfl⟩, ?_, ⟨fv, by rw [hs_ne (Ne.symm npv)]; exact ev, fun j hj => ?_⟩, fun q q1 q2 q3 => hs_ne q2⟩
    · rw [hs_self, rec0_25, rec0_26, rec0_27, rec0_28, rec0_29, rec0_30]
      rfl
    · rw [rec0_30, nI_clamp (by decide)] at hj
      exact absurd hj (Nat.not_lt_zero j)
  change X z _ _ (EQ (hs g p (.inr (3, rdL 0 (S.a 38 i &&& 15) ((S.a 38 i >>> ((4 : Int32) &&& 31)) &&& 3) ((S.a 38 i >>> ((6 : Int32) &&& 31)) &&& 1).toInt64 0 0 v 0 lt 0)))) _ _ _
  generalize hs g p (.inr (3, rdL 0 (S.a 38 i &&& 15) ((S.a 38 i >>> ((4 : Int32) &&& 31)) &&& 3) ((S.a 38 i >>> ((6 : Int32) &&& 31)) &&& 1).toInt64 0 0 v 0 lt 0)) = g1 at D2 ⊢
  exact i_71 hX C Y E hn A hi er h34 htx hv X1 Dk hgr Bp L F D2
end Item
end
section
/-! The decoder against the model: is it a frame? -/
def WAl (fb : Nat → Int32) (n : Nat) : Prop := ∃ l, 15 ≤ l ∧ l ≤ 252 ∧ n = l + 6 ∧ fb 1 = nI l ∧ fb 0 = 104 ∧ fb 2 = nI l ∧ fb 3 = 104 ∧ fb 4 = 8 ∧ fb 6 = 114 ∧ fb (l + 5) = 22
def WAs (fb : Nat → Int32) (n : Nat) : Prop := fb (n - 2) = sumR fb 4 (n - 6) &&& 255
def WAi (fb : Nat → Int32) : Prop := ∀ k, 7 ≤ k → k < 11 → g_dig (fb k) 8 = true
section Pure
variable {fb : Nat → Int32} {n : Nat} {S : MS}
theorem rAt_v {k : Nat} {x : Int32} (hk : k < 600) (hn : n ≤ 300) (h : rAt fb n (nI k) = x) (hx : x ≠ -1) : k < n ∧ fb k = x := by
  by_cases q : k < n
  · rw [rAt_in q hn] at h
    exact ⟨q, h⟩
  · unfold rAt at h
    rw [if_neg (fun y => q ((nI_ltI (by omega) (by omega)).mp y.2))] at h
    exact absurd h.symm hx
theorem wv (hn : n ≤ 300) (W : WAl fb n) : ∃ l, 15 ≤ l ∧ l ≤ 252 ∧ n = l + 6 ∧ rAt fb n 1 = nI l ∧ rAt fb n 0 = 104 ∧ rAt fb n 2 = nI l ∧ rAt fb n 3 = 104 ∧ rAt fb n 4 = 8 ∧ rAt fb n 6 = 114 ∧ rAt fb n (nI (l + 5)) = 22 := by
  obtain ⟨l, l1, l2, l3, w1, w0, w2, w3, w4, w6, w5⟩ := W
  exact ⟨l, l1, l2, l3, (rAt_in (i := 1) (by omega) hn).trans w1, (rAt_in (i := 0) (by omega) hn).trans w0, (rAt_in (i := 2) (by omega) hn).trans w2, (rAt_in (i := 3) (by omega) hn).trans w3, (rAt_in (i := 4) (by omega) hn).trans w4, (rAt_in (i := 6) (by omega) hn).trans w6, (rAt_in (by omega) hn).trans w5⟩
theorem isB1 {i : Nat} {x : Int32} : f_isB S n i x x ↔ i < n ∧ S.a 38 i = x := ⟨fun h => ⟨h.1, Int32.le_antisymm h.2.2 (Int32.not_lt.mp h.2.1)⟩, fun h => ⟨h.1, by rw [h.2]; exact Int32.lt_irrefl, by rw [h.2]; exact Int32.le_refl x⟩⟩
theorem ids_t (L : Nat) : ∀ (t k : Nat), (f_ids S L t k).1 = true ↔ ∀ j, k ≤ j → j < k + t → ¬ f_bad S j
  | 0, k => ⟨fun _ j h1 h2 => by omega, fun _ => rfl⟩
  | t + 1, k => by
    unfold f_ids
    by_cases q : f_bad S k
    · rw [if_pos q]
      exact ⟨fun h => absurd h Bool.false_ne_true, fun h => absurd q (h k (Nat.le_refl _) (by omega))⟩
    · rw [if_neg q, ids_t L t (k + 1)]
      exact ⟨fun h j h1 h2 => by
        by_cases e : j = k
        · subst e; exact q
        · exact h j (by omega) (by omega), fun h j h1 h2 => h j (by omega) (by omega)⟩
theorem dig_bad {k : Nat} (h : byt (S.a 38 k)) : g_dig (S.a 38 k) 8 = true ↔ ¬ f_bad S k := by
  obtain ⟨b, h1, h2⟩ := h
  unfold f_bad
  rw [h2, dg_c b h1]
  exact ⟨fun y z => z.elim y.1 (fun t => t y.2), fun y => ⟨fun z => y (Or.inl z), Decidable.byContradiction fun z => y (Or.inr z)⟩⟩
theorem sumR_F8 (h : ∀ j, j < n → fb j = S.a 38 j) (a : Nat) : ∀ t, a + t ≤ n → sumR fb a t = sumF (S.a 38) a (a + t)
  | 0, _ => by rw [Nat.add_zero, sumF_0]; rfl
  | t + 1, ht => by rw [show a + (t + 1) = (a + t) + 1 by omega, sumF_s _ (by omega), sumR, sumR_F8 h a t (by omega), h _ (by omega)]
/-- the model finds a frame where the class does -/
theorem fr_iff (h : ∀ j, j < n → fb j = S.a 38 j) (hd : ∀ j, byt (S.a 38 j)) : (f_fr S n).1 = true ↔ WAl fb n ∧ WAs fb n ∧ WAi fb := by
  constructor
  · intro g
    obtain ⟨L, l1, l2, l3, -⟩ := f_fr_t g
    unfold f_fr at g
    split at g
    rotate_left
    · exact nomatch g
    rename_i h0
    split at g
    rotate_left
    · exact nomatch g
    rename_i h1
    split at g
    rotate_left
    · exact nomatch g
    rename_i h2
    split at g
    rotate_left
    · exact nomatch g
    rename_i h3
    unfold f_fr2 at g
    split at g
    rotate_left
    · exact nomatch g
    rename_i h4
    split at g
    rotate_left
    · exact nomatch g
    rename_i h5
    split at g
    rotate_left
    · exact nomatch g
    rename_i h6
    split at g
    rotate_left
    · exact nomatch g
    rename_i h7
    unfold f_fr3 at g
    split at g
    rotate_left
    · exact nomatch g
    rename_i h8
    obtain ⟨-, -, e1⟩ := f_L_of h1
    have eL : f_L S = L := by omega
    rw [eL] at e1 h7 h8 g
    have hh : ∀ j, j < n → ∀ x, S.a 38 j = x → fb j = x := fun j hj x e => (h j hj).trans e
    refine ⟨⟨L, l1, l2, l3, hh 1 (by omega) _ e1, hh 0 (by omega) _ (isB1.mp h0).2, hh 2 (by omega) _ ((isB1.mp h2).2.trans e1), hh 3 (by omega) _ (isB1.mp h3).2, hh 4 (by omega) _ (isB1.mp h5).2, hh 6 (by omega) _ (isB1.mp h6).2, hh (L + 5) (by omega) _ (isB1.mp h7).2⟩, ?_, fun k k1 k2 => ?_⟩
    · unfold WAs
      rw [show n - 2 = L + 4 by omega, show n - 6 = L by omega, h _ (by omega), sumR_F8 h 4 L (by omega), h8, Nat.add_comm 4 L]
    · rw [h k (by omega)]
      exact (dig_bad (hd k)).mpr ((ids_t L 4 7).mp g k k1 (by omega))
  · rintro ⟨⟨L, l1, l2, l3, w1, w0, w2, w3, w4, w6, w5⟩, ws, wi⟩
    have hh : ∀ j, j < n → ∀ x, fb j = x → S.a 38 j = x := fun j hj x e => (h j hj).symm.trans e
    have e1 := hh 1 (by omega) _ w1
    have eL : f_L S = L := by unfold f_L; rw [e1, nI_clamp (by omega)]
    unfold f_fr
    rw [if_pos (isB1.mpr ⟨by omega, hh 0 (by omega) _ w0⟩), if_pos (show f_isB S n 1 15 252 from ⟨by omega, by rw [e1]; exact Int32.not_lt.mpr (nI_le (a := 15) l1 (by omega)), by rw [e1]; exact nI_le (b := 252) l2 (by decide)⟩), if_pos (isB1.mpr ⟨by omega, (hh 2 (by omega) _ w2).trans e1.symm⟩), if_pos (isB1.mpr ⟨by omega, hh 3 (by omega) _ w3⟩)]
    unfold f_fr2
    rw [eL, if_pos l3, if_pos (isB1.mpr ⟨by omega, hh 4 (by omega) _ w4⟩), if_pos (isB1.mpr ⟨by omega, hh 6 (by omega) _ w6⟩), if_pos (isB1.mpr ⟨by omega, hh (L + 5) (by omega) _ w5⟩)]
    unfold f_fr3
    unfold WAs at ws
    rw [show n - 2 = L + 4 by omega, show n - 6 = L by omega, h _ (by omega), sumR_F8 h 4 L (by omega), Nat.add_comm 4 L] at ws
    rw [eL, if_pos ws]
    exact (ids_t L 4 7).mpr (fun j j1 j2 => (dig_bad (hd j)).mp (by rw [← h j (by omega)]; exact wi j j1 (by omega)))
theorem bl_pos {x y : Int32} (h : S.i 41 = 0) (hx : 0 < x) : 0 < (f_bl S x y).i 41 := by rw [f_bl_41 h]; exact hx
theorem bS_no {i : Nat} {lo hi : Int32} (h0 : S.i 41 = 0) (h : ¬ f_isB S n i lo hi) : 0 < (f_bS S n i lo hi).i 41 := by
  unfold f_bS
  rw [if_neg h]
  exact bl_pos h0 (by decide)
theorem ids_no (h0 : S.i 41 = 0) (L : Nat) : ∀ (t k : Nat), ¬ (f_ids S L t k).1 = true → 0 < (f_ids S L t k).2.i 41
  | 0, _, h => absurd rfl h
  | t + 1, k, h => by
    unfold f_ids at h ⊢
    split at h
    · rename_i q
      rw [if_pos q]
      exact bl_pos h0 (by decide)
    · rename_i q
      rw [if_neg q]
      exact ids_no h0 L t (k + 1) h
theorem fr_no (h0 : S.i 41 = 0) (h : ¬ (f_fr S n).1 = true) : 0 < (f_fr S n).2.i 41 := by
  unfold f_fr at h ⊢
  by_cases q0 : f_isB S n 0 104 104
  rotate_left
  · rw [if_neg q0]; exact bS_no h0 q0
  rw [if_pos q0] at h ⊢
  by_cases q1 : f_isB S n 1 15 252
  rotate_left
  · rw [if_neg q1]; exact bS_no h0 q1
  rw [if_pos q1] at h ⊢
  by_cases q2 : f_isB S n 2 (S.a 38 1) (S.a 38 1)
  rotate_left
  · rw [if_neg q2]; exact bS_no h0 q2
  rw [if_pos q2] at h ⊢
  by_cases q3 : f_isB S n 3 104 104
  rotate_left
  · rw [if_neg q3]; exact bS_no h0 q3
  rw [if_pos q3] at h ⊢
  unfold f_fr2 at h ⊢
  by_cases q4 : n = f_L S + 6
  rotate_left
  · rw [if_neg q4]; exact bl_pos h0 (by decide)
  rw [if_pos q4] at h ⊢
  by_cases q5 : f_isB S n 4 8 8
  rotate_left
  · rw [if_neg q5]; exact bS_no h0 q5
  rw [if_pos q5] at h ⊢
  by_cases q6 : f_isB S n 6 114 114
  rotate_left
  · rw [if_neg q6]; exact bS_no h0 q6
  rw [if_pos q6] at h ⊢
  by_cases q7 : f_isB S n (f_L S + 5) 22 22
  rotate_left
  · rw [if_neg q7]; exact bS_no h0 q7
  rw [if_pos q7] at h ⊢
  unfold f_fr3 at h ⊢
  by_cases q8 : S.a 38 (f_L S + 4) = sumF (S.a 38) 4 (f_L S + 4) &&& 255
  rotate_left
  · rw [if_neg q8]; exact bl_pos h0 (by decide)
  rw [if_pos q8] at h ⊢
  exact ids_no h0 _ _ _ h
end Pure
section Dec
variable {w : Wd} {c : Nat → ClassId} {h : PH} {li de b ba n : Nat} {fb : Nat → Int32} {a e fa pl mo : Int32}
/-- behind a look at the frame -/
def LKo (li de b : Nat) (a mo : Int32) (h : PH) (P : Prop) (en : Int32) (q : Option Value) (g : PH) : Prop := ∃ en' fa' pl' : Int32, g = hs h de (.inr (1, [.ref li, .ref b, .int a, .int en', .int fa', .int pl', .int mo])) ∧ ((q = some (.int 1) ∧ P ∧ en' = en) ∨ (q = some (.int 0) ∧ ¬ P))
theorem d_frameX (hW : Wc w c) (Rh : RW c h b ba fb n) (B : h de = some (.inr (1, [.ref li, .ref b, .int a, .int e, .int fa, .int pl, .int mo]))) (nbd : b ≠ de ∧ ba ≠ de) : T w gw yX1_frameIsWell cX1_frameIsWell 2 (some .boolean) 2 (40 * 2) 0 0 [.ref de] (EQ h) (LKo li de b a mo h (WAl fb n) (nI (n - 2))) := by
  refine TA.intro hW rfl (by decide +kernel) (Nat.le_of_ble_eq_true rfl) (fun z C Y E hn h1 hA => ?_)
  rw [show h1 = h from hA]
  clear hA
  have hn3 := Rh.2.2.2
  have hw : ∀ (pc : Nat) (x q : Int32) (l1 : Option Value), ¬ WAl fb n → decode cX1_frameIsWell pc = .ok (.invokevirtual 67, 3) → decode cX1_frameIsWell (pc + 3) = .ok (.ireturn, 1) → X z 0 0 (EQ h) pc [some (.ref de), l1] [.int q, .int x, .ref de] := fun pc x q l1 nf d1 d2 => by
    refine u_callV (st := []) C Y hW E.cs (d_wrong hW B x q) md_X1_wrong wi_X1_wrong ws_X1_wrong wm_X1_67 d1 rfl (by decide) (by decide) B rfl rfl (by decide) ?_
    exact x_zret C E d2 (by decide) (fun g e => ⟨_, _, _, e, Or.inr ⟨rfl, nf⟩⟩)
  refine x_aload_n C dX1_frameIsWell_0 rfl ?_
  refine e_get C Y kd_X1 1 (by decide) wf_X1_28 dX1_frameIsWell_1 B rfl ?_
  refine x_iconst (v := 1) C dX1_frameIsWell_4 (by decide) ?_
  refine k_at (st := []) C Y hW E.cs (by decide) Rh _ dX1_frameIsWell_5 (by decide) ?_
  generalize hl1 : rAt fb n 1 = l1
  refine o_istore_nE (L' := [some _, some _]) C dX1_frameIsWell_8 (by rw [hn]; decide) rfl ?_
  refine x_aload_n C dX1_frameIsWell_9 rfl ?_
  refine e_get C Y kd_X1 1 (by decide) wf_X1_28 dX1_frameIsWell_10 B rfl ?_
  refine x_iconst (v := 0) C dX1_frameIsWell_13 (by decide) ?_
  refine k_at (st := []) C Y hW E.cs (by decide) Rh _ dX1_frameIsWell_14 (by decide) ?_
  refine x_bipush (v := 104) C dX1_frameIsWell_17 (by decide) ?_
  refine x_icmp_eq (tgt := 29) C dX1_frameIsWell_19 (by decide) (fun p0 => ?_) (fun q => ?_)
  rotate_left
  · refine x_aload_n C dX1_frameIsWell_22 rfl ?_
    refine x_iconst (v := 1) C dX1_frameIsWell_23 (by decide) ?_
    refine x_iconst (v := 0) C dX1_frameIsWell_24 (by decide) ?_
    exact hw 25 _ _ _ (fun W => by obtain ⟨l, -, -, -, -, w0, -⟩ := wv hn3 W; exact q w0) dX1_frameIsWell_25 dX1_frameIsWell_28
  have T42 : ¬ WAl fb n → X z 0 0 (EQ h) 42 [some (.ref de), some (.int l1)] [] := fun nf => by
    refine x_aload_n C dX1_frameIsWell_42 rfl ?_
    refine x_iconst (v := 1) C dX1_frameIsWell_43 (by decide) ?_
    refine x_iconst (v := 1) C dX1_frameIsWell_44 (by decide) ?_
    exact hw 45 _ _ _ nf dX1_frameIsWell_45 dX1_frameIsWell_48
  refine x_iload_n C dX1_frameIsWell_29 rfl ?_
  refine x_bipush (v := 15) C dX1_frameIsWell_30 (by decide) ?_
  refine x_icmp_lt (tgt := 42) C dX1_frameIsWell_32 (by decide) (fun q => T42 (fun W => by obtain ⟨l, y1, y2, -, w1, -⟩ := wv hn3 W; rw [← hl1, w1] at q; exact absurd (nI_le (a := 15) y1 (by omega)) (Int32.not_le.mpr q))) (fun q1 => ?_)
  refine x_iload_n C dX1_frameIsWell_35 rfl ?_
  refine x_sipush (v := 252) C dX1_frameIsWell_36 (by decide) ?_
  refine x_icmp_le (tgt := 49) C dX1_frameIsWell_39 (by decide) (fun q2 => ?_) (fun q => T42 (fun W => by obtain ⟨l, y1, y2, -, w1, -⟩ := wv hn3 W; rw [← hl1, w1] at q; exact q (nI_le (b := 252) y2 (by decide))))
  obtain ⟨l, hl, rfl⟩ := nI_of (x := l1) (fun g => q1 (Int32.lt_trans g (by decide)))
  have l15 : 15 ≤ l := Nat.le_of_not_lt (fun g => q1 (nI_lt g (by decide)))
  have l252 : l ≤ 252 := Nat.le_of_not_lt (fun g => absurd (nI_lt g hl) (Int32.not_lt.mpr q2))
  refine x_aload_n C dX1_frameIsWell_49 rfl ?_
  refine e_get C Y kd_X1 1 (by decide) wf_X1_28 dX1_frameIsWell_50 B rfl ?_
  refine x_iconst (v := 2) C dX1_frameIsWell_53 (by decide) ?_
  refine k_at (st := []) C Y hW E.cs (by decide) Rh _ dX1_frameIsWell_54 (by decide) ?_
  refine x_iload_n C dX1_frameIsWell_57 rfl ?_
  refine x_icmp_eq (tgt := 68) C dX1_frameIsWell_58 (by decide) (fun p2 => ?_) (fun q => ?_)
  rotate_left
  · refine x_aload_n C dX1_frameIsWell_61 rfl ?_
    refine x_iconst (v := 1) C dX1_frameIsWell_62 (by decide) ?_
    refine x_iconst (v := 2) C dX1_frameIsWell_63 (by decide) ?_
    exact hw 64 _ _ _ (fun W => by obtain ⟨l9, -, -, -, w1, -, w2, -⟩ := wv hn3 W; rw [hl1] at w1; exact q (w2.trans w1.symm)) dX1_frameIsWell_64 dX1_frameIsWell_67
  refine x_aload_n C dX1_frameIsWell_68 rfl ?_
  refine e_get C Y kd_X1 1 (by decide) wf_X1_28 dX1_frameIsWell_69 B rfl ?_
  refine x_iconst (v := 3) C dX1_frameIsWell_72 (by decide) ?_
  refine k_at (st := []) C Y hW E.cs (by decide) Rh _ dX1_frameIsWell_73 (by decide) ?_
  refine x_bipush (v := 104) C dX1_frameIsWell_76 (by decide) ?_
  refine x_icmp_eq (tgt := 88) C dX1_frameIsWell_78 (by decide) (fun p3 => ?_) (fun q => ?_)
  rotate_left
  · refine x_aload_n C dX1_frameIsWell_81 rfl ?_
    refine x_iconst (v := 1) C dX1_frameIsWell_82 (by decide) ?_
    refine x_iconst (v := 3) C dX1_frameIsWell_83 (by decide) ?_
    exact hw 84 _ _ _ (fun W => by obtain ⟨l9, -, -, -, -, -, -, w3, -⟩ := wv hn3 W; exact q w3) dX1_frameIsWell_84 dX1_frameIsWell_87
  refine x_aload_n C dX1_frameIsWell_88 rfl ?_
  refine e_get C Y kd_X1 1 (by decide) wf_X1_28 dX1_frameIsWell_89 B rfl ?_
  refine u_callV (st := []) C Y hW E.cs (r_size hW Rh) md_X5_size wi_X5_size ws_X5_size wm_X1_71 dX1_frameIsWell_92 rfl (by decide) (by decide) Rh.2.1 rfl rfl (by decide) ?_
  refine x_iload_n C dX1_frameIsWell_95 rfl ?_
  refine x_bipush (v := 6) C dX1_frameIsWell_96 (by decide) ?_
  refine x_iadd C dX1_frameIsWell_98 ?_
  refine x_icmp_eq (tgt := 122) C dX1_frameIsWell_99 (by decide) (fun q3 => ?_) (fun q => ?_)
  rotate_left
  · refine x_aload_n C dX1_frameIsWell_102 rfl ?_
    refine x_iconst (v := 1) C dX1_frameIsWell_103 (by decide) ?_
    refine x_aload_n C dX1_frameIsWell_104 rfl ?_
    refine e_get C Y kd_X1 1 (by decide) wf_X1_28 dX1_frameIsWell_105 B rfl ?_
    refine u_callV (st := [.int 1, .ref de]) C Y hW E.cs (r_size hW Rh) md_X5_size wi_X5_size ws_X5_size wm_X1_71 dX1_frameIsWell_108 rfl (by decide) (by decide) Rh.2.1 rfl rfl (by simp [Value.category]) ?_
    refine x_iload_n C dX1_frameIsWell_111 rfl ?_
    refine x_bipush (v := 6) C dX1_frameIsWell_112 (by decide) ?_
    refine x_iadd C dX1_frameIsWell_114 ?_
    refine x_min C wm_X1_72 dX1_frameIsWell_115 (by rw [E.fr_]; decide) (by rw [E.lo_]; simp [Value.category]) ?_
    exact hw 118 _ _ _ (fun W => by obtain ⟨l9, -, -, e9, w1, -⟩ := wv hn3 W; rw [hl1] at w1; exact q (by rw [w1, e9]; exact (nI_add l9 6).symm)) dX1_frameIsWell_118 dX1_frameIsWell_121
  have en : n = l + 6 := by
    rw [show nI l + 6 = nI (l + 6) from nI_add l 6] at q3
    exact (nI_eq (by omega) (by omega)).mp q3
  refine x_aload_n C dX1_frameIsWell_122 rfl ?_
  refine e_get C Y kd_X1 1 (by decide) wf_X1_28 dX1_frameIsWell_123 B rfl ?_
  refine x_iconst (v := 4) C dX1_frameIsWell_126 (by decide) ?_
  refine k_at (st := []) C Y hW E.cs (by decide) Rh _ dX1_frameIsWell_127 (by decide) ?_
  refine x_bipush (v := 8) C dX1_frameIsWell_130 (by decide) ?_
  refine x_icmp_eq (tgt := 142) C dX1_frameIsWell_132 (by decide) (fun p4 => ?_) (fun q => ?_)
  rotate_left
  · refine x_aload_n C dX1_frameIsWell_135 rfl ?_
    refine x_iconst (v := 1) C dX1_frameIsWell_136 (by decide) ?_
    refine x_iconst (v := 4) C dX1_frameIsWell_137 (by decide) ?_
    exact hw 138 _ _ _ (fun W => by obtain ⟨l9, -, -, -, -, -, -, -, w4, -⟩ := wv hn3 W; exact q w4) dX1_frameIsWell_138 dX1_frameIsWell_141
  refine x_aload_n C dX1_frameIsWell_142 rfl ?_
  refine e_get C Y kd_X1 1 (by decide) wf_X1_28 dX1_frameIsWell_143 B rfl ?_
  refine x_bipush (v := 6) C dX1_frameIsWell_146 (by decide) ?_
  refine k_at (st := []) C Y hW E.cs (by decide) Rh _ dX1_frameIsWell_148 (by decide) ?_
  refine x_bipush (v := 114) C dX1_frameIsWell_151 (by decide) ?_
  refine x_icmp_eq (tgt := 164) C dX1_frameIsWell_153 (by decide) (fun p6 => ?_) (fun q => ?_)
  rotate_left
  · refine x_aload_n C dX1_frameIsWell_156 rfl ?_
    refine x_iconst (v := 1) C dX1_frameIsWell_157 (by decide) ?_
    refine x_bipush (v := 6) C dX1_frameIsWell_158 (by decide) ?_
    exact hw 160 _ _ _ (fun W => by obtain ⟨l9, -, -, -, -, -, -, -, -, w6, -⟩ := wv hn3 W; exact q w6) dX1_frameIsWell_160 dX1_frameIsWell_163
  refine x_aload_n C dX1_frameIsWell_164 rfl ?_
  refine x_iload_n C dX1_frameIsWell_165 rfl ?_
  refine x_iconst (v := 4) C dX1_frameIsWell_166 (by decide) ?_
  refine x_iadd C dX1_frameIsWell_167 ?_
  rw [show nI l + 4 = nI (n - 2) from by rw [en]; exact nI_add l 4]
  refine e_put C Y kd_X1 3 (by decide) rfl wf_X1_15 dX1_frameIsWell_168 B (Nat.le_of_ble_eq_true rfl) rfl rfl rfl ?_
  have B2 : hs h de (.inr (1, [.ref li, .ref b, .int a, .int (nI (n - 2)), .int fa, .int pl, .int mo])) de = some (.inr (1, [.ref li, .ref b, .int a, .int (nI (n - 2)), .int fa, .int pl, .int mo])) := hs_self ..
  have R2 : RW c (hs h de (.inr (1, [.ref li, .ref b, .int a, .int (nI (n - 2)), .int fa, .int pl, .int mo]))) b ba fb n := ⟨Rh.1, by rw [hs_ne nbd.1]; exact Rh.2.1, by rw [hs_ne nbd.2]; exact Rh.2.2.1, hn3⟩
  change X z 0 0 (EQ (hs h de (.inr (1, [.ref li, .ref b, .int a, .int (nI (n - 2)), .int fa, .int pl, .int mo])))) _ _ _
  have T203 : rAt fb n (nI (n - 2) + 1) = 22 → X z 0 0 (EQ (hs h de (.inr (1, [.ref li, .ref b, .int a, .int (nI (n - 2)), .int fa, .int pl, .int mo])))) 203 [some (.ref de), some (.int (nI l))] [] := fun p5 => by
    refine x_iconst (v := 1) C dX1_frameIsWell_203 (by decide) ?_
    refine x_goto (tgt := 208) C dX1_frameIsWell_204 (by decide) ?_
    refine x_zret C E dX1_frameIsWell_208 (by decide) (fun g e => ⟨_, _, _, e, Or.inl ⟨rfl, ⟨l, l15, l252, en, ?_⟩, rfl⟩⟩)
    rw [nI_1] at p5
    have v1 := rAt_v (k := 1) (by decide) hn3 hl1 (fun y => by have := nI_pos (n := l) (by omega); rw [y] at this; exact this (by decide))
    exact ⟨v1.2, (rAt_v (k := 0) (by decide) hn3 p0 (by decide)).2, (rAt_v (k := 2) (by decide) hn3 p2 (fun y => by have := nI_pos (n := l) (by omega); rw [y] at this; exact this (by decide))).2, (rAt_v (k := 3) (by decide) hn3 p3 (by decide)).2, (rAt_v (k := 4) (by decide) hn3 p4 (by decide)).2, (rAt_v (k := 6) (by decide) hn3 p6 (by decide)).2, by rw [show l + 5 = n - 2 + 1 by omega]; exact (rAt_v (by omega) hn3 p5 (by decide)).2⟩
  refine x_aload_n C dX1_frameIsWell_171 rfl ?_
  refine e_get C Y kd_X1 1 (by decide) wf_X1_28 dX1_frameIsWell_172 B2 rfl ?_
  refine x_aload_n C dX1_frameIsWell_175 rfl ?_
  refine e_get C Y kd_X1 3 (by decide) wf_X1_15 dX1_frameIsWell_176 B2 rfl ?_
  refine x_iconst (v := 1) C dX1_frameIsWell_179 (by decide) ?_
  refine x_iadd C dX1_frameIsWell_180 ?_
  refine k_at (st := []) C Y hW E.cs (by decide) R2 _ dX1_frameIsWell_181 (by decide) ?_
  refine x_bipush (v := 22) C dX1_frameIsWell_184 (by decide) ?_
  refine x_icmp_eq (tgt := 203) C dX1_frameIsWell_186 (by decide) (fun q => T203 q) (fun q => ?_)
  refine x_aload_n C dX1_frameIsWell_189 rfl ?_
  refine x_iconst (v := 1) C dX1_frameIsWell_190 (by decide) ?_
  refine x_aload_n C dX1_frameIsWell_191 rfl ?_
  refine e_get C Y kd_X1 3 (by decide) wf_X1_15 dX1_frameIsWell_192 B2 rfl ?_
  refine x_iconst (v := 1) C dX1_frameIsWell_195 (by decide) ?_
  refine x_iadd C dX1_frameIsWell_196 ?_
  refine u_callV (st := []) C Y hW E.cs (d_wrong hW B2 1 _) md_X1_wrong wi_X1_wrong ws_X1_wrong wm_X1_67 dX1_frameIsWell_197 rfl (by decide) (by decide) B2 rfl rfl (by decide) ?_
  refine x_if_eq (tgt := 207) C dX1_frameIsWell_200 (by decide) (fun _ => ?_) (fun q => absurd rfl q)
  refine x_iconst (v := 0) C dX1_frameIsWell_207 (by decide) ?_
  exact x_zret C E dX1_frameIsWell_208 (by decide) (fun g e => by rw [hs_hs] at e; exact ⟨_, _, _, e, Or.inr ⟨rfl, fun W => by obtain ⟨l9, -, -, e9, -, -, -, -, -, -, w5⟩ := wv hn3 W; rw [nI_1, show n - 2 + 1 = l9 + 5 by omega] at q; exact q w5⟩⟩)
theorem d_sumX (hW : Wc w c) (Rh : RW c h b ba fb n) (n21 : 21 ≤ n) (B : h de = some (.inr (1, [.ref li, .ref b, .int a, .int (nI (n - 2)), .int fa, .int pl, .int mo]))) : T w gw yX1_sumIsWell cX1_sumIsWell 1 (some .boolean) 2 (40 * 2) 0 0 [.ref de] (EQ h) (LKo li de b a mo h (WAs fb n) (nI (n - 2))) := by
  refine TA.intro hW rfl (by decide +kernel) (Nat.le_of_ble_eq_true rfl) (fun z C Y E hn h1 hA => ?_)
  rw [show h1 = h from hA]
  clear hA
  have hn3 := Rh.2.2.2
  have e1 : rAt fb n (nI (n - 2)) = fb (n - 2) := rAt_in (by omega) hn3
  refine x_aload_n C dX1_sumIsWell_0 rfl ?_
  refine e_get C Y kd_X1 1 (by decide) wf_X1_28 dX1_sumIsWell_1 B rfl ?_
  refine x_aload_n C dX1_sumIsWell_4 rfl ?_
  refine e_get C Y kd_X1 3 (by decide) wf_X1_15 dX1_sumIsWell_5 B rfl ?_
  refine k_at (st := []) C Y hW E.cs (by decide) Rh _ dX1_sumIsWell_8 (by decide) ?_
  refine x_aload_n C dX1_sumIsWell_11 rfl ?_
  refine e_get C Y kd_X1 1 (by decide) wf_X1_28 dX1_sumIsWell_12 B rfl ?_
  refine x_iconst (v := 4) C dX1_sumIsWell_15 (by decide) ?_
  refine x_aload_n C dX1_sumIsWell_16 rfl ?_
  refine e_get C Y kd_X1 3 (by decide) wf_X1_15 dX1_sumIsWell_17 B rfl ?_
  refine u_callV (st := [_]) C Y hW E.cs (r_sum hW Rh 4 (n - 2) (by decide) (by omega)) md_X5_sum wi_X5_sum ws_X5_sum wm_X1_78 dX1_sumIsWell_20 rfl (by decide) (by decide) Rh.2.1 rfl rfl (by simp [Value.category]) ?_
  rw [e1, show min (n - 2) n - 4 = n - 6 by omega]
  refine x_icmp_eq (tgt := 38) C dX1_sumIsWell_23 (by decide) (fun q => ?_) (fun q => ?_)
  · refine x_iconst (v := 1) C dX1_sumIsWell_38 (by decide) ?_
    refine x_goto (tgt := 43) C dX1_sumIsWell_39 (by decide) ?_
    exact x_zret C E dX1_sumIsWell_43 (by decide) (fun g e => ⟨_, _, _, by rw [hs_same B]; exact e, Or.inl ⟨rfl, q, rfl⟩⟩)
  · refine x_aload_n C dX1_sumIsWell_26 rfl ?_
    refine x_iconst (v := 2) C dX1_sumIsWell_27 (by decide) ?_
    refine x_aload_n C dX1_sumIsWell_28 rfl ?_
    refine e_get C Y kd_X1 3 (by decide) wf_X1_15 dX1_sumIsWell_29 B rfl ?_
    refine u_callV (st := []) C Y hW E.cs (d_wrong hW B 2 _) md_X1_wrong wi_X1_wrong ws_X1_wrong wm_X1_67 dX1_sumIsWell_32 rfl (by decide) (by decide) B rfl rfl (by decide) ?_
    refine x_if_eq (tgt := 42) C dX1_sumIsWell_35 (by decide) (fun _ => ?_) (fun q => absurd rfl q)
    refine x_iconst (v := 0) C dX1_sumIsWell_42 (by decide) ?_
    exact x_zret C E dX1_sumIsWell_43 (by decide) (fun g e => ⟨_, _, _, e, Or.inr ⟨rfl, q⟩⟩)
theorem d_identX (hX : Wx w c) (Rh : RW c h b ba fb n) (n21 : 21 ≤ n) (B : h de = some (.inr (1, [.ref li, .ref b, .int a, .int e, .int fa, .int pl, .int mo]))) : T w gw yX1_identIsWell cX1_identIsWell 2 (some .boolean) 2 (40 * 2) 0 0 [.ref de] (EQ h) (LKo li de b a mo h (WAi fb) e) := by
  have hW := hX.1
  refine TA.intro hW rfl (by decide +kernel) (Nat.le_of_ble_eq_true rfl) (fun z C Y E hn h1 hA => ?_)
  rw [show h1 = h from hA]
  clear hA
  have hn3 := Rh.2.2.2
  have LP : ∀ (r k : Nat), k + r = 11 → 7 ≤ k → (∀ j, 7 ≤ j → j < k → g_dig (fb j) 8 = true) → X z 0 0 (EQ h) 3 [some (.ref de), some (.int (nI k))] [] := by
    intro r
    induction r with
    | zero =>
      intro k hk k7 hd
      obtain rfl : k = 11 := by omega
      refine x_iload_n C dX1_identIsWell_3 rfl ?_
      refine x_bipush (v := 11) C dX1_identIsWell_4 (by decide) ?_
      refine x_icmp_ge (tgt := 36) C dX1_identIsWell_6 (by decide) (fun _ => ?_) (fun q => absurd (Int32.le_refl _) q)
      refine x_iconst (v := 1) C dX1_identIsWell_36 (by decide) ?_
      exact x_zret C E dX1_identIsWell_37 (by decide) (fun g e => ⟨_, _, _, by rw [hs_same B]; exact e, Or.inl ⟨rfl, hd, rfl⟩⟩)
    | succ r ih =>
      intro k hk k7 hd
      refine x_iload_n C dX1_identIsWell_3 rfl ?_
      refine x_bipush (v := 11) C dX1_identIsWell_4 (by decide) ?_
      refine x_icmp_ge (tgt := 36) C dX1_identIsWell_6 (by decide) (fun q => absurd q (Int32.not_le.mpr (nI_lt (show k < 11 by omega) (by decide)))) (fun _ => ?_)
      refine x_aload_n C dX1_identIsWell_9 rfl ?_
      refine e_get C Y kd_X1 1 (by decide) wf_X1_28 dX1_identIsWell_10 B rfl ?_
      refine x_iload_n C dX1_identIsWell_13 rfl ?_
      refine k_at (st := []) C Y hW E.cs (by decide) Rh _ dX1_identIsWell_14 (by decide) ?_
      refine k_callSN (kc := 0) (ks := 0) (mc' := 0) (ms' := 0) (st := []) C E.cs hW.1 gw_good (m_areDigits hW _) md_X6_areDigits wt_X6_areDigits (E.cs.nest hX (q := (RX1, 81, yX6_areDigits)) (by simp [nst])) dX1_identIsWell_17 rfl (by decide) (by decide) rfl (by decide) (fun r => X.opn (fun g hg => ?_))
      obtain ⟨rfl, e⟩ := hg
      rw [show g = h from e]
      rw [rAt_in (show k < n by omega) hn3]
      refine x_if_ne (tgt := 30) C dX1_identIsWell_20 (by decide) (fun q => ?_) (fun q => ?_)
      · refine o_iincE (v := nI (k + 1)) (L' := [some _, some _]) C dX1_identIsWell_30 rfl (nI_1 k) (by rw [hn]; decide) rfl ?_
        refine x_goto (tgt := 3) C dX1_identIsWell_33 (by decide) ?_
        refine ih (k + 1) (by omega) (by omega) (fun j j1 j2 => ?_)
        by_cases e : j = k
        · subst e; exact Decidable.byContradiction fun y => q (bI_f y)
        · exact hd j j1 (by omega)
      · refine x_aload_n C dX1_identIsWell_23 rfl ?_
        refine x_iconst (v := 3) C dX1_identIsWell_24 (by decide) ?_
        refine x_iload_n C dX1_identIsWell_25 rfl ?_
        refine u_callV (st := []) C Y hW E.cs (d_wrong hW B 3 _) md_X1_wrong wi_X1_wrong ws_X1_wrong wm_X1_67 dX1_identIsWell_26 rfl (by decide) (by decide) B rfl rfl (by decide) ?_
        exact x_zret C E dX1_identIsWell_29 (by decide) (fun g e => ⟨_, _, _, e, Or.inr ⟨rfl, fun W => absurd (bI_t (W k k7 (by omega))) (by rw [q]; decide)⟩⟩)
  refine x_bipush (v := 7) C dX1_identIsWell_0 (by decide) ?_
  refine o_istore_nE (L' := [some _, some _]) C dX1_identIsWell_2 (by rw [hn]; decide) rfl ?_
  exact LP 4 7 rfl (Nat.le_refl _) (fun j j1 j2 => by omega)
end Dec
end
