/-! The decoder against the model: texts, values. -/
theorem f_txl_w (S : MS) (tx a q j : Nat) : ∀ k, (f_txl S tx a k).w q j = S.w q j
  | 0 => rfl
  | k + 1 => f_txl_w S tx a q j k
theorem f_txl_a (S : MS) (tx a : Nat) {q : Nat} (h : q ≠ 35) (j : Nat) : ∀ k, (f_txl S tx a k).a q j = S.a q j
  | 0 => rfl
  | k + 1 => by rw [f_txl, MS.si_a, MS.si_a, sa_ne h, f_txl_a S tx a h j k]
theorem f_txl_35 (S : MS) (tx a : Nat) {j : Nat} : ∀ k, j < k → (f_txl S tx a k).a 35 (tx + j) = S.a 38 (a + j)
  | 0, h => absurd h (Nat.not_lt_zero j)
  | k + 1, h => by
    rw [f_txl, MS.si_a, MS.si_a, MS.sa_a]
    by_cases q : j = k
    · rw [if_pos ⟨rfl, by rw [q]⟩, q]
    · rw [if_neg (fun y => q (by omega)), f_txl_35 S tx a k (by omega)]
theorem f_txl_lo (S : MS) (tx a : Nat) {j : Nat} (hj : j < tx) : ∀ k, (f_txl S tx a k).a 35 j = S.a 35 j
  | 0 => rfl
  | k + 1 => by rw [f_txl, MS.si_a, MS.si_a, MS.sa_a, if_neg (fun y => by omega), f_txl_lo S tx a hj k]
section Tx
variable {S : MS} {r tx a n : Nat}
theorem text_w (q j : Nat) : (f_text S r tx a n).w q j = S.w q j := by unfold f_text; rw [f_txl_w]; rfl
theorem text_a {q : Nat} (h1 : q ≠ 32) (h2 : q ≠ 33) (h3 : q ≠ 35) (j : Nat) : (f_text S r tx a n).a q j = S.a q j := by unfold f_text; rw [f_txl_a _ _ _ h3, sa_ne h2, sa_ne h1]
theorem text_32 : (f_text S r tx a n).a 32 r = nI tx := by unfold f_text; rw [f_txl_a _ _ _ (by decide), sa_ne (by decide), MS.sa_a, if_pos ⟨rfl, rfl⟩]
theorem text_33 : (f_text S r tx a n).a 33 r = nI n := by unfold f_text; rw [f_txl_a _ _ _ (by decide), MS.sa_a, if_pos ⟨rfl, rfl⟩]
theorem text_35 {j : Nat} (h : j < n) : (f_text S r tx a n).a 35 (tx + j) = S.a 38 (a + j) := by unfold f_text; rw [f_txl_35 _ _ _ _ h, sa_ne (by decide), sa_ne (by decide)]
theorem text_40 (h : S.i 40 = nI a) : (f_text S r tx a n).i 40 = nI (a + n) := by unfold f_text; exact f_txl_40 _ _ _ _ h
theorem text_i {q : Nat} (h1 : q ≠ 34) (h2 : q ≠ 40) : (f_text S r tx a n).i q = S.i q := by unfold f_text; exact f_txl_i _ _ _ h1 h2 _
end Tx
section Dg
variable {S : MS} {a m : Nat} {mi : Bool}
theorem dg_ok : ∀ t, (∀ k, k < t → ¬ f_bd S a m mi k) → f_dg S a m mi t = S
  | 0, _ => rfl
  | t + 1, h => by rw [f_dg, if_neg (h t (Nat.lt_succ_self t)), dg_ok t (fun k hk => h k (by omega))]
theorem bl_keep {x y : Int32} (h : ¬ S.i 41 = 0) : f_bl S x y = S := if_neg h
theorem dg_bad (h0 : S.i 41 = 0) : ∀ t, (∃ k, k < t ∧ f_bd S a m mi k) → ¬ (f_dg S a m mi t).i 41 = 0
  | 0, h => by obtain ⟨k, h1, -⟩ := h; exact absurd h1 (Nat.not_lt_zero k)
  | t + 1, h => by
    rw [f_dg]
    split
    · by_cases q : (f_dg S a m mi t).i 41 = 0
      · exact bl_no q (by decide)
      · rw [bl_keep q]; exact q
    · rename_i hb
      obtain ⟨k, h1, h2⟩ := h
      refine dg_bad h0 t ⟨k, ?_, h2⟩
      by_cases q : k = t
      · subst q; exact absurd h2 hb
      · omega
theorem mi_f : f_mi S a m false = false := decide_eq_false (fun q => nomatch q.1)
end Dg
/-- a record read whole -/
def DC (c : Nat → ClassId) (li de p v b : Nat) (h0 : PH) (r : Nat) (lt : Value) (Q : MS) (g : PH) : Prop := ∃ lt' : Value, (lt' = lt ∨ ∃ t, lt' = .ref t ∧ h0 t = none) ∧ (∃ fa pl : Int32, g de = some (.inr (1, [.ref li, .ref b, .int (Q.i 40), .int (Q.i 39), .int fa, .int pl, .int (Q.i 37)]))) ∧ g p = some (.inr (3, rdL (Q.w 24 r) (Q.a 25 r) (Q.a 26 r) (Q.w 27 r) (Q.a 28 r) (Q.a 29 r) v (Q.a 30 r) lt' (Q.a 33 r))) ∧
  (∃ fv : Nat → Int32, g v = some (.inl (c 0, 11, .inl fv)) ∧ ∀ j, j < (Q.a 30 r).toNatClampNeg → fv j = Q.a 31 (11 * r + j)) ∧ LK c g lt' ∧ (∀ j, j < (Q.a 33 r).toNatClampNeg → ∃ (t m : Nat) (fl : Nat → Int32), lt' = .ref t ∧ g t = some (.inl (c 0, m, .inl fl)) ∧ j < m ∧ fl j = Q.a 35 ((Q.a 32 r).toNatClampNeg + j)) ∧ ∀ q, q ≠ de → q ≠ p → q ≠ v → lt' ≠ .ref q → g q = h0 q
/-- where the letters lie -/
def LF (c : Nat → ClassId) (de p v b ba : Nat) (h0 : PH) (lt : Value) : Prop := LK c h0 lt ∧ ∀ t, lt = .ref t → t ≠ de ∧ t ≠ p ∧ t ≠ v ∧ t ≠ b ∧ t ≠ ba
section Dec
variable {w : Wd} {c : Nat → ClassId} {h h0 g : PH} {li de p v b ba nb r : Nat} {fb : Nat → Int32} {lt : Value} {S : MS}
theorem LF.at (L : LF c de p v b ba h0 lt) (e : ∀ q, q ≠ de → q ≠ p → q ≠ v → g q = h0 q) : LK c g lt := by
  obtain ⟨K, n⟩ := L
  rcases K with x | ⟨t, m, fl, e1, m3, e2⟩
  · exact Or.inl x
  · obtain ⟨n1, n2, n3, -⟩ := n t e1
    exact Or.inr ⟨t, m, fl, e1, m3, by rw [e t n1 n2 n3]; exact e2⟩
theorem DVx.dc {x : Int64} {j : Int32} (D : DVx c li de p v b h0 r lt S x j g) (L : LF c de p v b ba h0 lt) {Q : MS} (q40 : Q.i 40 = j) (q39 : Q.i 39 = S.i 39) (q37 : Q.i 37 = S.i 37) (q24 : Q.w 24 r = x) (q27 : Q.w 27 r = S.w 27 r) (qa : ∀ q t, 25 ≤ q → q ≤ 31 → Q.a q t = S.a q t) (q33 : Q.a 33 r = 0) : DC c li de p v b h0 r lt Q g := by
  obtain ⟨⟨fa, pl, d1⟩, d2, ⟨fv, d3, d3'⟩, d4⟩ := D
  refine ⟨lt, Or.inl rfl, ⟨fa, pl, by rw [q40, q39, q37]; exact d1⟩, ?_, ⟨fv, d3, fun t ht => ?_⟩, L.at d4, fun t ht => ?_, fun q q1 q2 q3 _ => d4 q q1 q2 q3⟩
  · rw [q24, q27, q33, qa 25 r (by decide) (by decide), qa 26 r (by decide) (by decide), qa 28 r (by decide) (by decide), qa 29 r (by decide) (by decide), qa 30 r (by decide) (by decide)]
    exact d2
  · rw [qa 30 r (by decide) (by decide)] at ht
    rw [qa 31 _ (by decide) (by decide)]
    exact d3' t ht
  · rw [q33] at ht
    exact absurd ht (Nat.not_lt_zero t)
theorem d_textX (hX : Wx w c) (F : FX c de p v b ba h0 fb nb) (L : LF c de p v b ba h0 lt) (D : DX c li de p v b h0 r lt S h) {i m s tx : Nat} (A : DA fb nb S i m r) (hs3 : s ≤ 300) (htx : tx < 2 ^ 31) : T w gw yX1_readText cX1_readText 3 (some .boolean) 2 (40 * 2) 1 (min s (m - i)) [.ref de, .ref p, .int (nI s)] (EQ h)
    (fun q g => (q = some (.int 1) ∧ i + s ≤ m ∧ DC c li de p v b h0 r lt (f_text (S.sw 24 r (nI s).toInt64) r tx i s) g) ∨ (q = some (.int 0) ∧ ¬ i + s ≤ m ∧ DFx c li de p v b h0 lt g)) := by
  have hW := hX.1
  refine TA.intro hW rfl (by decide +kernel) (Nat.le_of_ble_eq_true rfl) (fun z C Y E hn h1 hA => ?_)
  rw [show h1 = h from hA]
  clear hA
  obtain ⟨⟨fa, pl, B⟩, d2, ⟨fv, d3, d3'⟩, d4⟩ := id D
  obtain ⟨A1, A2, A3, A4, A5, A6, A7, A8, A9, A10⟩ := id A
  have dw := D.df A
  have Rh := D.row F
  obtain ⟨⟨n1, n2, n3⟩, ⟨b1, b2, b3⟩, ⟨a1, a2, a3⟩, -⟩ := id F
  have e1 : S.i 40 + nI s ≤ S.i 39 ↔ i + s ≤ m := by rw [A3, A4, nI_add]; exact nI_leI (by omega) (by omega)
  refine x_aload_n C dX1_readText_0 rfl ?_
  refine x_iload_n C dX1_readText_1 rfl ?_
  refine u_callV (st := []) C Y hW E.cs (d_areThere hW B (nI s)) md_X1_areThere wi_X1_areThere ws_X1_areThere wm_X1_117 dX1_readText_2 rfl (by decide) (by decide) B rfl rfl (by decide) ?_
  by_cases q2 : S.i 40 + nI s ≤ S.i 39
  rotate_left
  · rw [if_neg q2, bI_f q2]
    refine x_if_ne (tgt := 10) C dX1_readText_5 (by decide) (fun q => absurd rfl q) (fun _ => ?_)
    refine x_iconst (v := 0) C dX1_readText_8 (by decide) ?_
    exact x_zret C E dX1_readText_9 (by decide) (fun q e => by rw [show q = _ from e]; exact Or.inr ⟨rfl, fun y => q2 (e1.mpr y), dw.setD F _ _ _ _ _ A9⟩)
  rw [if_pos q2, bI_t q2]
  have hj1 := e1.mp q2
  refine x_if_ne (tgt := 10) C dX1_readText_5 (by decide) (fun _ => ?_) (fun q => absurd q (by decide))
  refine x_aload_n C dX1_readText_10 rfl ?_
  refine x_aload_n C dX1_readText_11 rfl ?_
  refine e_get C Y kd_X1 1 (by decide) wf_X1_28 dX1_readText_12 B rfl ?_
  refine x_aload_n C dX1_readText_15 rfl ?_
  refine e_get C Y kd_X1 2 (by decide) wf_X1_9 dX1_readText_16 B rfl ?_
  refine x_iload_n C dX1_readText_19 rfl ?_
  rw [A3]
  refine X.room (kc' := 0 + 1) (ks' := 0 + s) ?_ (by omega) (by omega)
  refine k_callR (kc := 0) (ks := 0) (st := []) C Y hW E.cs (q_setTextX hW d2 (L.at d4) (fun e => (L.2 p e).2.1 rfl) Rh ⟨b2, a2, fun e => (L.2 b e).2.2.2.1 rfl, fun e => (L.2 ba e).2.2.2.2 rfl⟩ (i := i) (s := s) (by omega) hs3) rfl md_X3_setText wi_X3_setText ws_X3_setText wm_X1_140 dX1_readText_20 rfl (by decide) (by decide) d2 rfl rfl (by decide) (fun rr g hg => ?_)
  obtain ⟨rfl, lt', x1, x2, x3, x4, x5⟩ := hg
  have tq : ∀ t, lt' = .ref t → t ≠ de ∧ t ≠ p ∧ t ≠ v := fun t et => by
    rcases x1 with y | ⟨t', y1, y2⟩
    · have := L.2 t (y.symm.trans et)
      exact ⟨this.1, this.2.1, this.2.2.1⟩
    · have e9 := Value.ref.inj (y1.symm.trans et)
      subst e9
      exact ⟨fun e => absurd y2 (by rw [e, B]; exact nofun), fun e => absurd y2 (by rw [e, d2]; exact nofun), fun e => absurd y2 (by rw [e, d3]; exact nofun)⟩
  have Bg : g de = some (.inr (1, [.ref li, .ref b, .int (S.i 40), .int (S.i 39), .int fa, .int pl, .int (S.i 37)])) := by rw [x5 de n1 (fun e => (tq de e).1 rfl)]; exact B
  refine x_aload_n C dX1_readText_23 rfl ?_
  refine x_dup C dX1_readText_24 rfl ?_
  refine e_get C Y kd_X1 2 (by decide) wf_X1_9 dX1_readText_25 Bg rfl ?_
  refine x_iload_n C dX1_readText_28 rfl ?_
  refine x_iadd C dX1_readText_29 ?_
  rw [A3, nI_add]
  refine e_put C Y kd_X1 2 (by decide) rfl wf_X1_9 dX1_readText_30 Bg (Nat.le_of_ble_eq_true rfl) rfl rfl rfl ?_
  refine x_iconst (v := 1) C dX1_readText_33 (by decide) ?_
  refine x_zret C E dX1_readText_34 (by decide) (fun q e => ?_)
  rw [show q = _ from e]
  have cs : (nI s).toNatClampNeg = s := nI_clamp (by omega)
  refine Or.inl ⟨rfl, hj1, lt', ?_, ⟨fa, pl, ?_⟩, ?_, ⟨fv, ?_, fun t ht => ?_⟩, ?_, fun t ht => ?_, fun q q1 q2 q3 q4 => ?_⟩
  · rcases x1 with y | ⟨t, y1, y2⟩
    · exact Or.inl y
    · obtain ⟨t1, t2, t3⟩ := tq t y1
      exact Or.inr ⟨t, y1, by rw [← d4 t t1 t2 t3]; exact y2⟩
  · rw [hs_self, text_40 (show (S.sw 24 r (nI s).toInt64).i 40 = nI i from A3), text_i (by decide) (by decide), text_i (by decide) (by decide)]
    rfl
  · rw [hs_ne (Ne.symm n1), x2, text_w, text_w, text_33, text_a (by decide) (by decide) (by decide), text_a (by decide) (by decide) (by decide), text_a (by decide) (by decide) (by decide), text_a (by decide) (by decide) (by decide), text_a (by decide) (by decide) (by decide), MS.sw_w, if_pos ⟨rfl, rfl⟩]
    rfl
  · rw [hs_ne (Ne.symm n2), x5 v (Ne.symm n3) (fun e => (tq v e).2.2 rfl)]
    exact d3
  · rw [text_a (by decide) (by decide) (by decide)] at ht
    rw [text_a (by decide) (by decide) (by decide)]
    exact d3' t ht
  · rcases x3 with y | ⟨t, mm, fl, y1, y2, y3⟩
    · exact Or.inl y
    · exact Or.inr ⟨t, mm, fl, y1, y2, by rw [hs_ne (tq t y1).1]; exact y3⟩
  · rw [text_33, cs] at ht
    obtain ⟨t9, mm, fl, y1, y2, y3, y4⟩ := x4 (by omega)
    refine ⟨t9, mm, fl, y1, by rw [hs_ne (tq t9 y1).1]; exact y2, by omega, ?_⟩
    rw [text_32, nI_clamp htx, text_35 ht, y4 t ht, A1 _ (by omega)]
    rfl
  · rw [hs_ne q1, x5 q q2 q4]
    exact d4 q q1 q2 q3
theorem d_sizedX (hX : Wx w c) (F : FX c de p v b ba h0 fb nb) (L : LF c de p v b ba h0 lt) (D : DX c li de p v b h0 r lt S h) {i m tx : Nat} (A : DA fb nb S i m r) (h33 : S.a 33 r = 0) (htx : tx < 2 ^ 31) : T w gw yX1_readSized cX1_readSized 3 (some .boolean) 3 (40 * 3) 1 (min (ts1 fb i) (m - (i + 1))) [.ref de, .ref p] (EQ h)
    (fun q g => (q = some (.int 1) ∧ (f_valD S i m r tx (S.a 38 i).toNatClampNeg).i 41 = 0 ∧ (∃ j, i + 1 + ts1 fb i ≤ j ∧ j ≤ m ∧ (f_valD S i m r tx (S.a 38 i).toNatClampNeg).i 40 = nI j) ∧ DC c li de p v b h0 r lt (f_valD S i m r tx (S.a 38 i).toNatClampNeg) g) ∨ (q = some (.int 0) ∧ ¬ (f_valD S i m r tx (S.a 38 i).toNatClampNeg).i 41 = 0 ∧ DFx c li de p v b h0 lt g)) := by
  have hW := hX.1
  refine TA.intro hW rfl (by decide +kernel) (Nat.le_of_ble_eq_true rfl) (fun z C Y E hn h1 hA => ?_)
  rw [show h1 = h from hA]
  clear hA
  obtain ⟨⟨fa, pl, B⟩, d2, ⟨fv, d3, d3'⟩, d4⟩ := id D
  obtain ⟨A1, A2, A3, A4, A5, A6, A7, A8, A9, A10⟩ := id A
  have dw := D.df A
  have Rh := D.row F
  obtain ⟨⟨n1, n2, n3⟩, -⟩ := id F
  have e1 : S.i 40 + nI 1 ≤ S.i 39 ↔ i + 1 ≤ m := by rw [A3, A4, nI_add]; exact nI_leI (by omega) (by omega)
  refine x_aload_n C dX1_readSized_0 rfl ?_
  refine x_iconst (v := 1) C dX1_readSized_1 (by decide) ?_
  refine u_callV (st := []) C Y hW E.cs (d_areThere hW B (nI 1)) md_X1_areThere wi_X1_areThere ws_X1_areThere wm_X1_117 dX1_readSized_2 rfl (by decide) (by decide) B rfl rfl (by decide) ?_
  by_cases q2 : S.i 40 + nI 1 ≤ S.i 39
  rotate_left
  · have hj0 : ¬ i < m := fun y => q2 (e1.mpr y)
    rw [if_neg q2, bI_f q2]
    refine x_if_ne (tgt := 10) C dX1_readSized_5 (by decide) (fun q => absurd rfl q) (fun _ => ?_)
    refine x_iconst (v := 0) C dX1_readSized_8 (by decide) ?_
    exact x_zret C E dX1_readSized_9 (by decide) (fun q e => by rw [show q = _ from e]; exact Or.inr ⟨rfl, by unfold f_valD; rw [if_neg hj0]; exact bl_no A8 (by decide), dw.setD F _ _ _ _ _ A9⟩)
  rw [if_pos q2, bI_t q2]
  have hj1 := e1.mp q2
  have hj0 : i < m := hj1
  refine x_if_ne (tgt := 10) C dX1_readSized_5 (by decide) (fun _ => ?_) (fun q => absurd q (by decide))
  have tk := d_take hW B Rh
  rw [A3, rAt_in (show i < nb by omega) Rh.2.2.2, A1 i (by omega), nI_1] at tk
  refine x_aload_n C dX1_readSized_10 rfl ?_
  refine u_callV (st := []) C Y hW E.cs tk md_X1_take wi_X1_take ws_X1_take wm_X1_85 dX1_readSized_11 rfl (by decide) (by decide) B rfl rfl (by decide) ?_
  obtain ⟨V, hv, ev⟩ := A2 i
  have eV : (S.a 38 i).toNatClampNeg = V := by rw [ev, nI_clamp (by omega)]
  have ets : ts1 fb i = if V ≤ 191 then V else 0 := by
    unfold ts1
    rw [A1 i (by omega), eV]
  rw [ets, ev]
  rw [ets, eV] at E
  have D1 : DX c li de p v b h0 r lt (S.si 40 (nI (i + 1))) (hs h de (.inr (1, [.ref li, .ref b, .int (nI (i + 1)), .int (S.i 39), .int fa, .int pl, .int (S.i 37)]))) := ⟨⟨fa, pl, hs_self ..⟩, by rw [hs_ne (Ne.symm n1)]; exact d2, ⟨fv, by rw [hs_ne (Ne.symm n2)]; exact d3, d3'⟩, fun q q1 q2 q3 => by rw [hs_ne q1]; exact d4 q q1 q2 q3⟩
  have A' : DA fb nb (S.si 40 (nI (i + 1))) (i + 1) m r := ⟨A1, A2, rfl, A4, hj1, A6, A7, A8, A9, A10⟩
  have h33' : (S.si 40 (nI (i + 1))).a 33 r = 0 := h33
  change X z _ _ (EQ (hs h de (.inr (1, [.ref li, .ref b, .int (nI (i + 1)), .int (S.i 39), .int fa, .int pl, .int (S.i 37)])))) _ _ _
  generalize hS1 : S.si 40 (nI (i + 1)) = S1 at D1 A' h33'
  generalize hs h de (.inr (1, [.ref li, .ref b, .int (nI (i + 1)), .int (S.i 39), .int fa, .int pl, .int (S.i 37)])) = g at D1 ⊢
  have fd : f_valD S i m r tx V = (if f_vok V then (if i + 1 + f_vn V ≤ m then f_v3 S1 i r tx V else f_bl S1 4 (nI m)) else f_bl S1 8 (nI i)) := by unfold f_valD; rw [if_pos hj0, hS1]
  rw [fd] at E
  clear fd hS1 ev eV ets dw
  obtain ⟨⟨fa', pl', B⟩, -⟩ := id D1
  have A8' := A'.2.2.2.2.2.2.2.1
  have dw := D1.df A'
  have gt_ : ∀ {x : Nat} {k : Int32} (hx : x < 2 ^ 31), k = nI x → (k < nI V ↔ x < V) := fun hx e => by rw [e]; exact ⟨fun g => (nI_ltI hx (by omega)).mp g, fun g => nI_lt g (by omega)⟩
  refine o_istore_nE (L' := [some _, some _, some _]) C dX1_readSized_14 (by rw [hn]; decide) rfl ?_
  refine x_iload_n C dX1_readSized_15 rfl ?_
  refine x_sipush (v := 191) C dX1_readSized_16 (by decide) ?_
  refine x_icmp_gt (tgt := 29) C dX1_readSized_19 (by decide) (fun q => ?_) (fun q => ?_)
  rotate_left
  · have hv1 : V ≤ 191 := Nat.le_of_not_lt (fun g => q ((gt_ (x := 191) (by decide) rfl).mpr g))
    rw [if_pos hv1]
    rw [if_pos hv1] at E
    refine x_aload_n C dX1_readSized_22 rfl ?_
    refine x_aload_n C dX1_readSized_23 rfl ?_
    refine x_iload_n C dX1_readSized_24 rfl ?_
    refine X.room (kc' := 0 + 1) (ks' := 0 + min V (m - (i + 1))) ?_ (by omega) (by omega)
    rw [if_pos (show f_vok V from Or.inl (by omega)), show f_vn V = V from if_pos (by omega)] at E
    refine k_callR (kc := 0) (ks := 0) (st := []) C Y hW E.cs (d_textX hX F L D1 (s := V) (tx := tx) A' (by omega) htx) rfl md_X1_readText wi_X1_readText ws_X1_readText wm_X1_97 dX1_readSized_25 rfl (by decide) (by decide) B rfl rfl (by decide) (fun rr g hg => ?_)
    rcases hg with ⟨rfl, j1, Dg⟩ | ⟨rfl, j1, Dg⟩
    · refine x_zret C E dX1_readSized_28 (by decide) (fun q e => ?_)
      rw [show q = _ from e, if_pos j1, show f_v3 S1 i r tx V = f_text (S1.sw 24 r (nI V).toInt64) r tx (i + 1) V from if_pos (by omega)]
      exact Or.inl ⟨rfl, by rw [text_i (by decide) (by decide)]; exact A8', ⟨i + 1 + V, Nat.le_refl _, j1, text_40 A'.2.2.1⟩, Dg⟩
    · refine x_zret C E dX1_readSized_28 (by decide) (fun q e => ?_)
      rw [show q = _ from e, if_neg j1]
      exact Or.inr ⟨rfl, bl_no A8' (by decide), Dg⟩
  have hv1 : 191 < V := (gt_ (x := 191) (by decide) rfl).mp q
  rw [if_neg (show ¬ V ≤ 191 by omega)]
  rw [if_neg (show ¬ V ≤ 191 by omega)] at E
  refine X.room (kc' := 0) (ks' := 0) ?_ (by omega) (by omega)
  refine x_iload_n C dX1_readSized_29 rfl ?_
  refine x_sipush (v := 201) C dX1_readSized_30 (by decide) ?_
  refine x_icmp_gt (tgt := 49) C dX1_readSized_33 (by decide) (fun q => ?_) (fun q => ?_)
  rotate_left
  · have hv2 : V ≤ 201 := Nat.le_of_not_lt (fun g => q ((gt_ (x := 201) (by decide) rfl).mpr g))
    refine x_aload_n C dX1_readSized_36 rfl ?_
    refine x_aload_n C dX1_readSized_37 rfl ?_
    refine x_iload_n C dX1_readSized_38 rfl ?_
    refine x_sipush (v := 192) C dX1_readSized_39 (by decide) ?_
    refine x_isub C dX1_readSized_42 ?_
    rw [show nI V - 192 = nI (V - 192) from nI_sub' (b := 192) (by omega)]
    refine x_iconst (v := 1) C dX1_readSized_43 (by decide) ?_
    refine x_iconst (v := 0) C dX1_readSized_44 (by decide) ?_
    rw [if_pos (show f_vok V from Or.inl (by omega)), show f_vn V = V - 192 from (if_neg (by omega)).trans (if_pos (by omega))] at E
    refine k_callR (kc := 0) (ks := 0) (mc' := 0) (ms' := 0) (st := []) C Y hW E.cs (d_bcdX hX F D1 A' (s := V - 192) (by omega) (1) false (mi := 0) ⟨fun _ => rfl, fun _ => rfl⟩) rfl md_X1_readBcd wi_X1_readBcd ws_X1_readBcd wm_X1_136 dX1_readSized_45 rfl (by decide) (by decide) B rfl rfl (by decide) (fun rr g hg => ?_)
    have f3 : f_v3 S1 i r tx V = (f_digS S1 (i + 1) (V - 192) false).sw 24 r (f_dig S1 (i + 1) (V - 192) false) := by
      unfold f_v3
      rw [if_neg (show ¬ V < 192 by omega), if_pos (show V < 224 by omega), show f_vn V = V - 192 from (if_neg (by omega)).trans (if_pos (by omega)), if_pos (show V < 208 by omega)]
    rcases hg with ⟨rfl, j1, j2, Dg⟩ | ⟨rfl, j1, Dg⟩
    · refine x_zret C E dX1_readSized_48 (by decide) (fun q e => ?_)
      rw [show q = _ from e, if_pos j1, f3]
      have ed : f_digS S1 (i + 1) (V - 192) false = S1.si 40 (nI (i + 1 + (V - 192))) := by unfold f_digS; rw [mi_f, dg_ok _ j2]
      rw [ed]
      exact Or.inl ⟨rfl, A8', ⟨i + 1 + (V - 192), by omega, j1, rfl⟩, Dg.dc L rfl rfl rfl (by
          rw [MS.sw_w, if_pos ⟨rfl, rfl⟩]
          exact ((show (1 : Int32).toInt64 * f_dv S1 (i + 1) (V - 192) false (V - 192) 0 = f_dig S1 (i + 1) (V - 192) false by
              unfold f_dig
              rw [mi_f, if_neg (by decide)]
              show (1 : Int64) * _ = _
              grind)).symm) rfl (fun _ _ _ _ => rfl) h33'⟩
    · refine x_zret C E dX1_readSized_48 (by decide) (fun q e => ?_)
      rw [show q = _ from e, f3]
      refine Or.inr ⟨rfl, ?_, Dg⟩
      by_cases q9 : i + 1 + (V - 192) ≤ m
      · rw [if_pos q9]
        have := dg_bad (mi := false) A8' _ (j1.resolve_left (fun y => y q9))
        unfold f_digS
        rw [mi_f, MS.sw_i, MS.si_i, if_neg (by decide)]
        exact this
      · rw [if_neg q9]
        exact bl_no A8' (by decide)
  have hv2 : 201 < V := (gt_ (x := 201) (by decide) rfl).mp q
  have T101 : ¬ f_vok V → X z 0 0 (EQ g) 101 [some (.ref de), some (.ref p), some (.int (nI V))] [] := fun nok => by
    rw [if_neg nok] at E
    refine x_aload_n C dX1_readSized_101 rfl ?_
    refine x_bipush (v := 8) C dX1_readSized_102 (by decide) ?_
    refine x_aload_n C dX1_readSized_104 rfl ?_
    refine e_get C Y kd_X1 2 (by decide) wf_X1_9 dX1_readSized_105 B rfl ?_
    refine x_iconst (v := 1) C dX1_readSized_108 (by decide) ?_
    refine x_isub C dX1_readSized_109 ?_
    refine u_callV (st := []) C Y hW E.cs (d_wrong hW B 8 _) md_X1_wrong wi_X1_wrong ws_X1_wrong wm_X1_67 dX1_readSized_110 rfl (by decide) (by decide) B rfl rfl (by decide) ?_
    exact x_zret C E dX1_readSized_113 (by decide) (fun q e => by rw [show q = _ from e]; exact Or.inr ⟨rfl, bl_no A8' (by decide), dw.setD F _ _ _ _ _ A'.2.2.2.2.2.2.2.2.1⟩)
  have lt_ : ∀ {x : Nat} {k : Int32} (hx : x < 2 ^ 31), k = nI x → (nI V < k ↔ V < x) := fun hx e => by rw [e]; exact ⟨fun g => (nI_ltI (by omega) hx).mp g, fun g => nI_lt g hx⟩
  have T76 : ¬ (208 ≤ V ∧ V ≤ 217) → X z 0 0 (EQ g) 76 [some (.ref de), some (.ref p), some (.int (nI V))] [] := fun nok => by
    refine x_iload_n C dX1_readSized_76 rfl ?_
    refine x_sipush (v := 224) C dX1_readSized_77 (by decide) ?_
    refine x_icmp_lt (tgt := 101) C dX1_readSized_80 (by decide) (fun q1 => T101 (fun y => by have := (lt_ (x := 224) (by decide) rfl).mp q1; rcases y with y | y | y <;> omega)) (fun q1 => ?_)
    refine x_iload_n C dX1_readSized_83 rfl ?_
    refine x_sipush (v := 232) C dX1_readSized_84 (by decide) ?_
    refine x_icmp_gt (tgt := 101) C dX1_readSized_87 (by decide) (fun q1 => T101 (fun y => by have := (gt_ (x := 232) (by decide) rfl).mp q1; rcases y with y | y | y <;> omega)) (fun q2 => ?_)
    have w1 : 224 ≤ V := Nat.le_of_not_lt (fun g => q1 ((lt_ (x := 224) (by decide) rfl).mpr g))
    have w2 : V ≤ 232 := Nat.le_of_not_lt (fun g => q2 ((gt_ (x := 232) (by decide) rfl).mpr g))
    refine x_aload_n C dX1_readSized_90 rfl ?_
    refine x_aload_n C dX1_readSized_91 rfl ?_
    refine x_iload_n C dX1_readSized_92 rfl ?_
    refine x_sipush (v := 224) C dX1_readSized_93 (by decide) ?_
    refine x_isub C dX1_readSized_96 ?_
    rw [show nI V - 224 = nI (V - 224) from nI_sub' (b := 224) w1]
    rw [if_pos (show f_vok V from Or.inr (Or.inr ⟨w1, w2⟩)), show f_vn V = V - 224 from (if_neg (by omega)).trans ((if_neg (by omega)).trans (if_neg (by omega)))] at E
    refine k_callR (kc := 0) (ks := 0) (mc' := 0) (ms' := 0) (st := []) C Y hW E.cs (d_numberX hW F D1 A' (s := V - 224) (by omega)) rfl md_X1_readNumber wi_X1_readNumber ws_X1_readNumber wm_X1_127 dX1_readSized_97 rfl (by decide) (by decide) B rfl rfl (by decide) (fun rr g hg => ?_)
    have f3 : f_v3 S1 i r tx V = (S1.si 40 (nI (i + 1 + (V - 224)))).sw 24 r (f_whole S1 (i + 1) (V - 224)) := by
      unfold f_v3
      rw [if_neg (show ¬ V < 192 by omega), if_neg (show ¬ V < 224 by omega), show f_vn V = V - 224 from (if_neg (by omega)).trans ((if_neg (by omega)).trans (if_neg (by omega)))]
    rcases hg with ⟨rfl, j1, Dg⟩ | ⟨rfl, j1, Dg⟩
    · refine x_zret C E dX1_readSized_100 (by decide) (fun q e => ?_)
      rw [show q = _ from e, if_pos j1, f3]
      exact Or.inl ⟨rfl, A8', ⟨i + 1 + (V - 224), by omega, j1, rfl⟩, Dg.dc L rfl rfl rfl (by rw [MS.sw_w, if_pos ⟨rfl, rfl⟩]) rfl (fun _ _ _ _ => rfl) h33'⟩
    · refine x_zret C E dX1_readSized_100 (by decide) (fun q e => ?_)
      rw [show q = _ from e, if_neg j1]
      exact Or.inr ⟨rfl, bl_no A8' (by decide), Dg⟩
  refine x_iload_n C dX1_readSized_49 rfl ?_
  refine x_sipush (v := 208) C dX1_readSized_50 (by decide) ?_
  refine x_icmp_lt (tgt := 76) C dX1_readSized_53 (by decide) (fun q1 => T76 (fun y => by have := (lt_ (x := 208) (by decide) rfl).mp q1; omega)) (fun q1 => ?_)
  refine x_iload_n C dX1_readSized_56 rfl ?_
  refine x_sipush (v := 217) C dX1_readSized_57 (by decide) ?_
  refine x_icmp_gt (tgt := 76) C dX1_readSized_60 (by decide) (fun q1 => T76 (fun y => by have := (gt_ (x := 217) (by decide) rfl).mp q1; omega)) (fun q2 => ?_)
  have w1 : 208 ≤ V := Nat.le_of_not_lt (fun g => q1 ((lt_ (x := 208) (by decide) rfl).mpr g))
  have w2 : V ≤ 217 := Nat.le_of_not_lt (fun g => q2 ((gt_ (x := 217) (by decide) rfl).mpr g))
  refine x_aload_n C dX1_readSized_63 rfl ?_
  refine x_aload_n C dX1_readSized_64 rfl ?_
  refine x_iload_n C dX1_readSized_65 rfl ?_
  refine x_sipush (v := 208) C dX1_readSized_66 (by decide) ?_
  refine x_isub C dX1_readSized_69 ?_
  rw [show nI V - 208 = nI (V - 208) from nI_sub' (b := 208) w1]
  refine x_iconst (v := -1) C dX1_readSized_70 (by decide) ?_
  refine x_iconst (v := 0) C dX1_readSized_71 (by decide) ?_
  rw [if_pos (show f_vok V from Or.inr (Or.inl ⟨by omega, by omega⟩)), show f_vn V = V - 208 from (if_neg (by omega)).trans ((if_neg (by omega)).trans (if_pos (by omega)))] at E
  refine k_callR (kc := 0) (ks := 0) (mc' := 0) (ms' := 0) (st := []) C Y hW E.cs (d_bcdX hX F D1 A' (s := V - 208) (by omega) (-1) false (mi := 0) ⟨fun _ => rfl, fun _ => rfl⟩) rfl md_X1_readBcd wi_X1_readBcd ws_X1_readBcd wm_X1_136 dX1_readSized_72 rfl (by decide) (by decide) B rfl rfl (by decide) (fun rr g hg => ?_)
  have f3 : f_v3 S1 i r tx V = (f_digS S1 (i + 1) (V - 208) false).sw 24 r (-(f_dig S1 (i + 1) (V - 208) false)) := by
    unfold f_v3
    rw [if_neg (show ¬ V < 192 by omega), if_pos (show V < 224 by omega), show f_vn V = V - 208 from (if_neg (by omega)).trans ((if_neg (by omega)).trans (if_pos (by omega))), if_neg (show ¬ V < 208 by omega)]
  rcases hg with ⟨rfl, j1, j2, Dg⟩ | ⟨rfl, j1, Dg⟩
  · refine x_zret C E dX1_readSized_75 (by decide) (fun q e => ?_)
    rw [show q = _ from e, if_pos j1, f3]
    have ed : f_digS S1 (i + 1) (V - 208) false = S1.si 40 (nI (i + 1 + (V - 208))) := by unfold f_digS; rw [mi_f, dg_ok _ j2]
    rw [ed]
    exact Or.inl ⟨rfl, A8', ⟨i + 1 + (V - 208), by omega, j1, rfl⟩, Dg.dc L rfl rfl rfl (by
        rw [MS.sw_w, if_pos ⟨rfl, rfl⟩]
        exact ((show (-1 : Int32).toInt64 * f_dv S1 (i + 1) (V - 208) false (V - 208) 0 = -(f_dig S1 (i + 1) (V - 208) false) by
            unfold f_dig
            rw [mi_f, if_neg (by decide)]
            exact neg_ring _)).symm) rfl (fun _ _ _ _ => rfl) h33'⟩
  · refine x_zret C E dX1_readSized_75 (by decide) (fun q e => ?_)
    rw [show q = _ from e, f3]
    refine Or.inr ⟨rfl, ?_, Dg⟩
    by_cases q9 : i + 1 + (V - 208) ≤ m
    · rw [if_pos q9]
      have := dg_bad (mi := false) A8' _ (j1.resolve_left (fun y => y q9))
      unfold f_digS
      rw [mi_f, MS.sw_i, MS.si_i, if_neg (by decide)]
      exact this
    · rw [if_neg q9]
      exact bl_no A8' (by decide)
end Dec
