section
/-! The decoder against the model: a frame, read. -/
/-- no fault is below 0 -/
def N4 (S : MS) : Prop := ¬ S.i 41 < 0
section N4
variable {S S' : MS} {r tx : Nat}
theorem N4.same (h : N4 S) (e : S'.i 41 = S.i 41) : N4 S' := by unfold N4; rw [e]; exact h
theorem N4.bl (h : N4 S) {x y : Int32} (hx : ¬ x < 0) : N4 (f_bl S x y) := by
  by_cases q : S.i 41 = 0
  · unfold N4; rw [f_bl_41 q]; exact hx
  · rw [bl_keep q]; exact h
theorem N4.nx (h : N4 S) : N4 (f_nx S).2 := by
  unfold f_nx
  split
  · exact h
  · exact h.bl (by decide)
theorem N4.dl (r : Nat) : ∀ (t : Nat) (S : MS) (b : Int32) (i : Nat), N4 S → N4 (f_dl r t S b i)
  | 0, _, _, _, h => h
  | t + 1, S, b, i, h => by
    rw [f_dl]
    split
    · refine N4.dl r t _ _ _ (N4.same (S := f_d2 (f_nx S).2 i) ?_ (f_d3_i _ _ _ _ _))
      unfold f_d2
      split
      · exact h.nx.bl (by decide)
      · exact h.nx
    · exact h
theorem N4.vl (r : Nat) : ∀ (t : Nat) (S : MS) (b : Int32) (i : Nat), N4 S → N4 (f_vl r t S b i)
  | 0, _, _, _, h => h
  | t + 1, S, b, i, h => by
    rw [f_vl]
    split
    · refine N4.vl r t _ _ _ (N4.same (S := f_v2 (f_nx S).2 i) ?_ (f_v4_i _ _ _ _ _))
      unfold f_v2
      split
      · exact h.nx.bl (by decide)
      · exact h.nx
    · exact h
theorem N4.dg (h : N4 S) (a m : Nat) (mi : Bool) : ∀ t, N4 (f_dg S a m mi t)
  | 0 => h
  | t + 1 => by
    rw [f_dg]
    split
    · exact (N4.dg h a m mi t).bl (by decide)
    · exact N4.dg h a m mi t
theorem N4.value (h : N4 S) (cc : Nat) : N4 (f_value S cc) := by
  have h' : ∀ j, N4 (S.si 40 j) := fun _ => h
  unfold f_value
  split
  · unfold f_valD
    split
    · split
      · split
        · unfold f_v3
          split
          · exact h.same (by rw [text_i (by decide) (by decide)]; rfl)
          · split
            · exact N4.same (N4.dg (h' _) _ _ _ _) rfl
            · exact h
        · exact (h' _).bl (by decide)
      · exact (h' _).bl (by decide)
    · exact h.bl (by decide)
  · unfold f_valN
    split
    · split
      · exact h
      · exact N4.same (N4.dg h _ _ _ _) rfl
    · exact h.bl (by decide)
theorem N4.rcd (h : N4 S) : N4 (f_rcd S) := by
  have h' : ∀ j, N4 (S.si 40 j) := fun _ => h
  have h'' : ∀ j, N4 ((S.si 40 j).si 37 1) := fun _ => h
  unfold f_rcd
  dsimp only
  split
  · exact h' _
  · split
    · split
      · exact (h'' _).bl (by decide)
      · exact h'' _
    · split
      · exact (h' _).bl (by decide)
      · split
        · exact (h' _).bl (by decide)
        · split
          · exact h.same (by unfold f_own; rw [MS.si_i, if_neg (by decide), text_i (by decide) (by decide)]; rfl)
          · have h4 := N4.vl (f_r S) 13 _ 128 0 (N4.dl (f_r S) 12 (f_rec0 (S.si 40 (nI (f_at S + 1))) (f_r S) (S.a 38 (f_at S))) (S.a 38 (f_at S)) 0 h)
            generalize f_vl (f_r S) 13 (f_dl (f_r S) 12 (f_rec0 (S.si 40 (nI (f_at S + 1))) (f_r S) (S.a 38 (f_at S))) (S.a 38 (f_at S)) 0) 128 0 = S4 at h4
            unfold f_ends
            split
            · exact (h4.value _).same (by rw [MS.si_i, if_neg (by decide)])
            · exact h4
theorem N4.pos (h : N4 S) (q : ¬ S.i 41 = 0) : 0 < S.i 41 := Decidable.byContradiction fun y => q (Int32.le_antisymm (Int32.not_lt.mp y) (Int32.not_lt.mp h))
end N4
section Rl
variable {S : MS}
theorem rl_stop (h : ¬ (S.i 41 = 0 ∧ f_at S < f_e S)) : ∀ t, f_rl t S = S
  | 0 => rfl
  | t + 1 => by rw [f_rl, if_neg h]
theorem rl_go (h : S.i 41 = 0 ∧ f_at S < f_e S) (t : Nat) : f_rl (t + 1) S = f_rl t (f_rcd S) := by rw [f_rl, if_pos h]
end Rl
section Cut
variable {w : Wd} {c : Nat → ClassId} {a : Nat → Nat} {h h0 g : PH} {r r0 : Nat} {W : Nat → Prop} {κ ω : Nat → Nat} {S S' Sx : MS} {gr : Nat → Option Nat}
theorem l_cutX (hW : Wc w c) {li ra n i : Nat} (hn1 : n ≤ 100) (hi : i ≤ 100) (B : h li = some (.inr (4, [.ref ra, .int (nI n)]))) : TC w yX4_cutTo cX4_cutTo 2 none 0 [.ref li, .int (nI i)] h none (if i < n then hs h li (.inr (4, [.ref ra, .int (nI i)])) else h) := by
  refine TC.intro hW rfl (by decide +kernel) (Nat.le_of_ble_eq_true rfl) (fun z C Y E hn => ?_)
  refine x_iload_n C dX4_cutTo_0 rfl ?_
  refine x_if_lt (tgt := 17) C dX4_cutTo_1 (by decide) (fun q => absurd q (nI_pos (by omega))) (fun c1 => ?_)
  refine x_iload_n C dX4_cutTo_4 rfl ?_
  refine x_aload_n C dX4_cutTo_5 rfl ?_
  refine e_get C Y kd_X4 1 (by decide) wf_X4_17 dX4_cutTo_6 B rfl ?_
  refine x_icmp_ge (tgt := 17) C dX4_cutTo_9 (by decide) (fun q => ?_) (fun c9 => ?_)
  · have : ¬ i < n := fun y => absurd (nI_lt y (by omega)) (Int32.not_lt.mpr q)
    rw [if_neg this] at E
    exact e_vret C E dX4_cutTo_17 rfl rfl
  have hj2 : i < n := (nI_ltI (by omega) (by omega)).mp (Int32.not_le.mp c9)
  rw [if_pos hj2] at E
  refine x_aload_n C dX4_cutTo_12 rfl ?_
  refine x_iload_n C dX4_cutTo_13 rfl ?_
  refine e_put C Y kd_X4 1 (by decide) rfl wf_X4_17 dX4_cutTo_14 B (Nat.le_of_ble_eq_true rfl) rfl rfl rfl ?_
  exact e_vret C E dX4_cutTo_17 rfl rfl
/-- the list cut to what it was -/
theorem ELx.cut (E : ELx c a κ ω Sx h r gr) (D : DK c (a 7) (a 8) (a 9) h0 W κ h) (hr : r0 ≤ r) (t0 : TI S r0) (k1 : KR r0 (f_tx S) S Sx) (k2 : KR r0 (f_tx S) Sx S') (e23 : S'.i 23 = nI r0) (etx : f_tx S' = f_tx S) : ELx c a κ ω S' (if r0 < r then hs h (a 7) (.inr (4, [.ref (a 8), .int (nI r0)])) else h) r0 gr := by
  obtain ⟨x0, x1, x2, x3, x4, x5, x6, x7⟩ := E
  obtain ⟨l1, l2, l3, l4, l5, l6⟩ := D.2.2.2.2.1
  have w7 : ∀ q, ω q ≠ 0 → q ≠ a 7 := fun q hq e => x0 q hq (by rw [e]; exact l1)
  have kp : ∀ j p, gr j = some p → κ p = 1 := fun j p hj => by
    obtain ⟨g', y1, y2⟩ := D.2.1
    rw [x4] at y1
    simp only [zR, Option.some.injEq, Sum.inl.injEq, Prod.mk.injEq, Sum.inr.injEq, true_and] at y1
    exact y2 j p (by rw [← y1]; exact hj)
  have st : ∀ q, q ≠ a 7 → (if r0 < r then hs h (a 7) (.inr (4, [.ref (a 8), .int (nI r0)])) else h) q = h q := fun q hq => by
    split
    · exact hs_ne hq
    · rfl
  have t1 : ∀ i, i < r0 → ∀ j, j < (Sx.a 33 i).toNatClampNeg → (Sx.a 32 i).toNatClampNeg + j < f_tx S := fun i hi j hj => by
    rw [k1.2.1 33 i hi (by decide) (by decide) (by decide)] at hj
    rw [k1.2.1 32 i hi (by decide) (by decide) (by decide)]
    exact t0 i hi j hj
  refine ⟨x0, ?_, e23, by omega, by rw [st _ (Ne.symm l4)]; exact x4, fun i q hi hq => ?_, fun i hi => ?_, fun i hi j hj => ?_⟩
  · split
    · exact hs_self ..
    · rw [show r0 = r by omega]; exact x1
  · have L := x5 i q hi hq
    exact L.go (st q (w7 q (by rw [L.1]; omega)))
  · obtain ⟨q, q1, q2⟩ := x6 i (by omega)
    have hvn := q2.vle D (kp i q q1)
    exact ⟨q, q1, q2.go (x5 i q (by omega) q1) (fun y y1 _ => st y (w7 y (by omega))) (fun y _ => k2.1 y i hi) (fun y hy => k2.2.1 y i hi (by omega) (by omega) (by omega)) (fun j hj => k2.2.2.1 _ (by omega)) (fun j hj => k2.2.2.2 _ (t1 i hi j hj))⟩
  · rw [k2.2.1 33 i hi (by decide) (by decide) (by decide)] at hj
    rw [k2.2.1 32 i hi (by decide) (by decide) (by decide), etx]
    exact t1 i hi j hj
end Cut
section Da
variable {S : MS} {q n : Nat}
theorem LSx.da0 (S : MS) (q n : Nat) : LSx S (f_da0 S q n) := by
  unfold f_da0
  exact ⟨fun x hx => by rw [f_cp_i, MS.si_i, if_neg (by omega), MS.si_i, if_neg (by omega), MS.si_i, if_neg (by omega)], fun x y => by rw [cp_w]; rfl, fun x j x1 x2 => by rw [f_cp_ne _ _ (by omega)]; rfl⟩
theorem LSx.kr {S' : MS} {r tx : Nat} (h : LSx S S') : KR r tx S S' := ⟨fun q i _ => h.2.1 q i, fun q i _ q1 q2 _ => h.2.2 q i q1 (by omega), fun t _ => h.2.2 31 t (by decide) (by decide), fun t _ => h.2.2 35 t (by decide) (by decide)⟩
theorem da0_38 {j : Nat} (hq : q ≠ 38) (hj : j < n) : (f_da0 S q n).a 38 j = S.a q j := by unfold f_da0; rw [f_cp_eq, if_pos hj]; rfl
theorem da0_i {k : Nat} : (f_da0 S q n).i k = if k = 37 then 0 else if k = 36 then -1 else if k = 41 then 0 else S.i k := by
  unfold f_da0
  rw [f_cp_i, MS.si_i, MS.si_i, MS.si_i]
theorem KR.ids {r tx : Nat} (L : Nat) : ∀ t k, KR r tx S (f_ids S L t k).2
  | 0, _ => KR.si _ _ _
  | t + 1, k => by
    unfold f_ids
    split
    · exact KR.bl _ _ _
    · exact KR.ids L t (k + 1)
theorem KR.bS {r tx i : Nat} {lo hi : Int32} : KR r tx S (f_bS S n i lo hi) := by
  unfold f_bS
  split
  · exact KR.rf S
  · exact KR.bl _ _ _
theorem KR.fr {r tx : Nat} : KR r tx S (f_fr S n).2 := by
  unfold f_fr
  split
  rotate_left
  · exact KR.bS
  split
  rotate_left
  · exact KR.bS
  split
  rotate_left
  · exact KR.bS
  split
  rotate_left
  · exact KR.bS
  unfold f_fr2
  split
  rotate_left
  · exact KR.bl _ _ _
  split
  rotate_left
  · exact KR.bS
  split
  rotate_left
  · exact KR.bS
  split
  rotate_left
  · exact KR.bS
  unfold f_fr3
  split
  · exact KR.ids _ _ _
  · exact KR.bl _ _ _
end Da
section Reads
variable {w : Wd} {c : Nat → ClassId} {a : Nat → Nat} {h h0 g : PH} {b ba n r0 : Nat} {W : Nat → Prop} {fb : Nat → Int32} {κ ω : Nat → Nat} {S : MS} {gr : Nat → Option Nat}
/-- behind a frame -/
def RDo (c : Nat → ClassId) (a : Nat → Nat) (h0 : PH) (W : Nat → Prop) (b : Nat) (FA F1 : MS) (q : Option Value) (g : PH) : Prop := ∃ κ' ω' r' gr', ELx c a κ' ω' FA g r' gr' ∧ DK c (a 7) (a 8) (a 9) h0 W κ' g ∧ ((q = some (.int 1) ∧ F1.i 41 = 0 ∧ (∃ at_ en fa pl : Int32, g (a 9) = some (.inr (1, [.ref (a 7), .ref b, .int at_, .int en, .int fa, .int pl, .int (FA.i 37)])) ∧ (FA.i 37 = 0 ∨ FA.i 37 = 1))) ∨ (q = some (.int 0) ∧ 0 < F1.i 41))
theorem d_readsX (hX : Wx w c) (R : RW c h0 b ba fb n) (o1 : W b) (o2 : W ba) (XE : ELx c a κ ω S h r0 gr) (D : DK c (a 7) (a 8) (a 9) h0 W κ h) {q0 tx : Nat} (hq : q0 ≠ 38) (hf : ∀ j, j < n → fb j = S.a q0 j) (hb : ∀ j, byt ((f_da0 S q0 n).a 38 j)) (h34 : S.i 34 = nI tx) (htx : tx ≤ 240 * r0) : T w gw yX1_reads cX1_reads 5 (some .boolean) 7 (40 * 7) (Bc (n - 21)) (Bs (n - 21)) [.ref (a 9), .ref b] (EQ h) (RDo c a h0 W b (f_da S q0 n) (f_da1 S q0 n)) := by
  have hW := hX.1
  refine TA.intro hW rfl (by decide +kernel) (Nat.le_of_ble_eq_true rfl) (fun z C Y E hn h1 hA => ?_)
  rw [show h1 = h from hA]
  clear hA
  have hn3 := R.2.2.2
  have r100 : r0 ≤ 100 := XE.2.2.2.1
  have s23 : S.i 23 = nI r0 := XE.2.2.1
  have t0 : TI S r0 := XE.2.2.2.2.2.2.2
  have et : f_tx S = tx := by unfold f_tx; rw [h34, nI_clamp (by omega)]
  -- the model
  have eFA0 : (f_da1 S q0 n).i 41 = 0 → f_da S q0 n = f_da1 S q0 n := fun y => by unfold f_da; rw [if_neg (by rw [y]; decide)]
  have eFA1 : 0 < (f_da1 S q0 n).i 41 → f_da S q0 n = ((f_da1 S q0 n).si 23 (S.i 23)).si 34 (S.i 34) := fun y => by unfold f_da; rw [if_pos y]
  have f0 : ∀ j, j < n → fb j = (f_da0 S q0 n).a 38 j := fun j hj => (hf j hj).trans (da0_38 hq hj).symm
  have m41 : (f_da0 S q0 n).i 41 = 0 := by rw [da0_i]; rfl
  have m37 : (f_da0 S q0 n).i 37 = 0 := by rw [da0_i]; rfl
  have m23 : (f_da0 S q0 n).i 23 = nI r0 := by rw [da0_i]; exact s23
  have m34 : (f_da0 S q0 n).i 34 = nI tx := by rw [da0_i]; exact h34
  have kr0 : KR r0 tx S (f_da0 S q0 n) := (LSx.da0 S q0 n).kr
  have fri := fr_iff f0 hb
  have eF1 : (f_fr (f_da0 S q0 n) n).1 = true → ∃ L, 15 ≤ L ∧ L ≤ 252 ∧ n = L + 6 ∧ f_da1 S q0 n = f_rl 300 (((f_da0 S q0 n).si 39 (nI (L + 4))).si 40 19) := fun y => by
    obtain ⟨L, l1, l2, l3, e⟩ := f_fr_t y
    exact ⟨L, l1, l2, l3, by unfold f_da1; rw [if_pos y, e]⟩
  have eF2 : ¬ (f_fr (f_da0 S q0 n) n).1 = true → 0 < (f_da1 S q0 n).i 41 ∧ KR r0 tx (f_da0 S q0 n) (f_da1 S q0 n) := fun y => by
    have e : f_da1 S q0 n = (f_fr (f_da0 S q0 n) n).2 := by unfold f_da1; rw [if_neg y]
    rw [e]
    exact ⟨fr_no m41 y, KR.fr⟩
  have ls0 := LSx.da0 S q0 n
  generalize f_da S q0 n = FA at E eFA0 eFA1
  generalize f_da1 S q0 n = F1 at E eFA0 eFA1 eF1 eF2
  generalize f_da0 S q0 n = S0 at *
  -- the code
  obtain ⟨fr, at_, en, fa, pl, mo, B, hm1⟩ := D.2.2.1
  have lde : a 7 ≠ a 9 := D.2.2.2.2.1.2.2.2.2.1
  refine x_aload_n C dX1_reads_0 rfl ?_
  refine x_aload_n C dX1_reads_1 rfl ?_
  refine e_put C Y kd_X1 1 (by decide) rfl wf_X1_28 dX1_reads_2 B (Nat.le_of_ble_eq_true rfl) rfl rfl rfl ?_
  refine x_aload_n C dX1_reads_5 rfl ?_
  refine x_iconst (v := 0) C dX1_reads_6 (by decide) ?_
  refine e_put C Y kd_X1 6 (by decide) rfl wf_X1_24 dX1_reads_7 (hs_self ..) (Nat.le_of_ble_eq_true rfl) (by decide) (by decide) (hs_hs ..) ?_
  refine x_aload_n C dX1_reads_10 rfl ?_
  refine u_callV (st := []) C Y hW E.cs (d_forget hW (hs_self ..)) md_X1_forgetFault wi_X1_forgetFault ws_X1_forgetFault wm_X1_36 dX1_reads_11 rfl (by decide) (by decide) (hs_self ..) rfl rfl (by decide) ?_
  rw [hs_hs]
  have P1 := EH.putD (S' := S0) ⟨XE, D⟩ ls0 (.ref b) at_ en 0 (-1) 0 (Or.inl rfl)
  have B1 : hs h (a 9) (.inr (1, [.ref (a 7), .ref b, .int at_, .int en, .int 0, .int (-1), .int 0])) (a 9) = some (.inr (1, [.ref (a 7), .ref b, .int at_, .int en, .int 0, .int (-1), .int 0])) := hs_self ..
  change X z _ _ (EQ (hs h (a 9) (.inr (1, [.ref (a 7), .ref b, .int at_, .int en, .int 0, .int (-1), .int 0])))) _ _ _
  generalize hs h (a 9) (.inr (1, [.ref (a 7), .ref b, .int at_, .int en, .int 0, .int (-1), .int 0])) = h2 at P1 B1 ⊢
  clear B XE D
  obtain ⟨XE, D⟩ := P1
  refine x_aload_n C dX1_reads_14 rfl ?_
  refine e_get C Y kd_X1 0 (by decide) wf_X1_32 dX1_reads_15 B1 rfl ?_
  refine u_callV (st := []) C Y hW E.cs (l_size hW XE.2.1) md_X4_size wi_X4_size ws_X4_size wm_X1_39 dX1_reads_18 rfl (by decide) (by decide) XE.2.1 rfl rfl (by decide) ?_
  refine o_istore_nE (L' := [some _, some _, some _, none, none]) C dX1_reads_21 (by rw [hn]; decide) rfl ?_
  -- the ends
  have Yes : ∀ (kc ks : Nat) (g : PH) (κ ω : Nat → Nat) (r : Nat) (gr : Nat → Option Nat) (l4 : Option Value) (Sx : MS), EH c a h0 W b κ ω Sx r gr g → F1 = Sx → Sx.i 41 = 0 → (Sx.i 37 = 0 ∨ Sx.i 37 = 1) → X z kc ks (EQ g) 92 [some (.ref (a 9)), some (.ref b), some (.int (nI r0)), some (.int 1), l4] [] := fun kc ks g κ ω r gr l4 Sx H e1 e2 e3 => by
    subst e1
    have eF := eFA0 e2
    subst eF
    obtain ⟨xx, dd, fa, pl, Bd⟩ := H
    refine x_iload_n C dX1_reads_92 rfl ?_
    refine x_if_ne (tgt := 104) C dX1_reads_93 (by decide) (fun _ => ?_) (fun q => absurd q (by decide))
    refine x_iload_n C dX1_reads_104 rfl ?_
    exact x_zret C E dX1_reads_105 (by decide) (fun q e => by rw [show q = _ from e]; exact ⟨κ, ω, r, gr, xx, dd, Or.inl ⟨rfl, e2, ⟨_, _, fa, pl, Bd, e3⟩⟩⟩)
  have No : ∀ (kc ks : Nat) (g : PH) (κ ω : Nat → Nat) (r : Nat) (gr : Nat → Option Nat) (l4 : Option Value) (Sx : MS), ELx c a κ ω Sx g r gr → DK c (a 7) (a 8) (a 9) h0 W κ g → r0 ≤ r → KR r0 tx S Sx → KR r0 tx Sx F1 → 0 < F1.i 41 → X z kc ks (EQ g) 92 [some (.ref (a 9)), some (.ref b), some (.int (nI r0)), some (.int 0), l4] [] := fun kc ks g κ ω r gr l4 Sx xx dd hr k1 k2 pf => by
    obtain ⟨fr, at_, en, fa, pl, mo, Bd, hm⟩ := dd.2.2.1
    refine x_iload_n C dX1_reads_92 rfl ?_
    refine x_if_ne (tgt := 104) C dX1_reads_93 (by decide) (fun q => absurd rfl q) (fun _ => ?_)
    refine x_aload_n C dX1_reads_96 rfl ?_
    refine e_get C Y kd_X1 0 (by decide) wf_X1_32 dX1_reads_97 Bd rfl ?_
    refine x_iload_n C dX1_reads_100 rfl ?_
    refine u_callV (st := []) C Y hW E.cs (l_cutX hW xx.2.2.2.1 r100 xx.2.1) md_X4_cutTo wi_X4_cutTo ws_X4_cutTo wm_X1_58 dX1_reads_101 rfl (by decide) (by decide) xx.2.1 rfl rfl (by decide) ?_
    refine x_iload_n C dX1_reads_104 rfl ?_
    refine x_zret C E dX1_reads_105 (by decide) (fun q e => ?_)
    rw [show q = _ from e]
    rw [← et] at k1 k2
    have xc := xx.cut dd hr t0 k1 (k2.tr ((KR.si F1 23 (S.i 23)).tr (KR.si _ 34 (S.i 34)))) (by rw [MS.si_i, if_neg (by decide), MS.si_i, if_pos rfl]; exact s23) (by unfold f_tx; rw [MS.si_i, if_pos rfl])
    rw [← eFA1 pf] at xc
    refine ⟨κ, ω, r0, gr, xc, ?_, Or.inr ⟨rfl, pf⟩⟩
    split
    · exact dd.putL r100
    · exact dd
  have N58 : ∀ (kc ks : Nat) (g : PH) (k : Nat) (κ ω : Nat → Nat) (r : Nat) (gr : Nat → Option Nat) (Sx : MS), k ≤ 300 → ELx c a κ ω Sx g r gr → DK c (a 7) (a 8) (a 9) h0 W κ g → r0 ≤ r → KR r0 tx S Sx → KR r0 tx Sx F1 → 0 < F1.i 41 → X z kc ks (EQ g) 58 [some (.ref (a 9)), some (.ref b), some (.int (nI r0)), some (.int 0), some (.int (nI k))] [] := fun kc ks g k κ ω r gr Sx hk xx dd hr k1 k2 pf => by
    refine x_iload C dX1_reads_58 rfl ?_
    refine x_sipush (v := 300) C dX1_reads_60 (by decide) ?_
    refine x_icmp_ge (tgt := 92) C dX1_reads_63 (by decide) (fun _ => No kc ks g κ ω r gr _ Sx xx dd hr k1 k2 pf) (fun _ => ?_)
    refine x_iload_n C dX1_reads_66 rfl ?_
    exact x_if_eq (tgt := 92) C dX1_reads_67 (by decide) (fun _ => No kc ks g κ ω r gr _ Sx xx dd hr k1 k2 pf) (fun q => absurd rfl q)
  have N47 : ∀ (kc ks : Nat) (g : PH) (fa pl ee : Int32), g = hs h2 (a 9) (.inr (1, [.ref (a 7), .ref b, .int at_, .int ee, .int fa, .int pl, .int 0])) → ¬ (f_fr S0 n).1 = true → X z kc ks (EQ g) 47 [some (.ref (a 9)), some (.ref b), some (.int (nI r0)), none, none] [] := fun kc ks g fa pl ee eg nf => by
    have Bg : g (a 9) = some (.inr (1, [.ref (a 7), .ref b, .int at_, .int ee, .int fa, .int pl, .int 0])) := by rw [eg]; exact hs_self ..
    refine x_iconst (v := 0) C dX1_reads_47 (by decide) ?_
    refine o_istore_nE (L' := [some _, some _, some _, some _, none]) C dX1_reads_48 (by rw [hn]; decide) rfl ?_
    refine x_aload_n C dX1_reads_49 rfl ?_
    refine x_bipush (v := 19) C dX1_reads_50 (by decide) ?_
    refine e_put C Y kd_X1 2 (by decide) rfl wf_X1_9 dX1_reads_52 Bg (Nat.le_of_ble_eq_true rfl) rfl rfl rfl ?_
    refine x_iconst (v := 0) C dX1_reads_55 (by decide) ?_
    refine o_istoreE (L' := [some _, some _, some _, some _, some _]) C dX1_reads_56 (by rw [hn]; decide) rfl ?_
    have P := EH.putD (S' := S0) ⟨XE, D⟩ (LSx.rf S0) (.ref b) 19 ee fa pl 0 (Or.inl rfl)
    obtain ⟨pf, kf⟩ := eF2 nf
    have e9 : hs g (a 9) (.inr (1, [.ref (a 7), .ref b, .int 19, .int ee, .int fa, .int pl, .int 0])) = hs h2 (a 9) (.inr (1, [.ref (a 7), .ref b, .int 19, .int ee, .int fa, .int pl, .int 0])) := by rw [eg, hs_hs]
    rw [← e9] at P
    exact N58 kc ks _ 0 κ ω r0 gr S0 (by decide) P.1 P.2 (Nat.le_refl _) kr0 kf pf
  have wb := D.2.2.2.2.2 b o1
  have wba := D.2.2.2.2.2 ba o2
  refine x_aload_n C dX1_reads_22 rfl ?_
  refine k_callR (kc := Bc (n - 21)) (ks := Bs (n - 21)) (mc' := 0) (ms' := 0) (st := []) C Y hW E.cs (d_frameX hW (D.row R o1 o2) B1 ⟨wb.2.2.2.1, wba.2.2.2.1⟩) rfl md_X1_frameIsWell wi_X1_frameIsWell ws_X1_frameIsWell wm_X1_45 dX1_reads_23 rfl (by decide) (by decide) B1 rfl rfl (by decide) (fun rr g hg => ?_)
  obtain ⟨en1, fa1, pl1, eg1, hg⟩ := hg
  rcases hg with ⟨rfl, WL, een⟩ | ⟨rfl, nW⟩
  rotate_left
  · exact x_if_eq (tgt := 47) C dX1_reads_26 (by decide) (fun _ => N47 _ _ _ fa1 pl1 en1 eg1 (fun y => nW (fri.mp y).1)) (fun q => absurd rfl q)
  subst een
  refine x_if_eq (tgt := 47) C dX1_reads_26 (by decide) (fun q => absurd q (by decide)) (fun _ => ?_)
  have n21 : 21 ≤ n ∧ n ≤ 258 := by obtain ⟨l, l1, l2, l3, -⟩ := WL; omega
  have P2 := EH.putD (S' := S0) ⟨XE, D⟩ (LSx.rf S0) (.ref b) at_ (nI (n - 2)) fa1 pl1 0 (Or.inl rfl)
  have B2 : g (a 9) = some (.inr (1, [.ref (a 7), .ref b, .int at_, .int (nI (n - 2)), .int fa1, .int pl1, .int 0])) := by rw [eg1]; exact hs_self ..
  rw [← eg1] at P2
  refine x_aload_n C dX1_reads_29 rfl ?_
  refine k_callR (kc := Bc (n - 21)) (ks := Bs (n - 21)) (mc' := 0) (ms' := 0) (st := []) C Y hW E.cs (d_sumX hW (P2.2.row R o1 o2) n21.1 B2) rfl md_X1_sumIsWell wi_X1_sumIsWell ws_X1_sumIsWell wm_X1_49 dX1_reads_30 rfl (by decide) (by decide) B2 rfl rfl (by decide) (fun rr g2 hg => ?_)
  obtain ⟨en2, fa2, pl2, eg2, hg⟩ := hg
  rw [eg1, hs_hs] at eg2
  rcases hg with ⟨rfl, WS, een⟩ | ⟨rfl, nW⟩
  rotate_left
  · exact x_if_eq (tgt := 47) C dX1_reads_33 (by decide) (fun _ => N47 _ _ _ fa2 pl2 en2 eg2 (fun y => nW (fri.mp y).2.1)) (fun q => absurd rfl q)
  subst een
  refine x_if_eq (tgt := 47) C dX1_reads_33 (by decide) (fun q => absurd q (by decide)) (fun _ => ?_)
  have P3 := EH.putD (S' := S0) ⟨XE, D⟩ (LSx.rf S0) (.ref b) at_ (nI (n - 2)) fa2 pl2 0 (Or.inl rfl)
  have B3 : g2 (a 9) = some (.inr (1, [.ref (a 7), .ref b, .int at_, .int (nI (n - 2)), .int fa2, .int pl2, .int 0])) := by rw [eg2]; exact hs_self ..
  rw [← eg2] at P3
  refine x_aload_n C dX1_reads_36 rfl ?_
  refine k_callR (kc := Bc (n - 21)) (ks := Bs (n - 21)) (mc' := 0) (ms' := 0) (st := []) C Y hW E.cs (d_identX hX (P3.2.row R o1 o2) n21.1 B3) rfl md_X1_identIsWell wi_X1_identIsWell ws_X1_identIsWell wm_X1_52 dX1_reads_37 rfl (by decide) (by decide) B3 rfl rfl (by decide) (fun rr g3 hg => ?_)
  obtain ⟨en3, fa3, pl3, eg3, hg⟩ := hg
  rw [eg2, hs_hs] at eg3
  rcases hg with ⟨rfl, WI, een⟩ | ⟨rfl, nW⟩
  rotate_left
  · exact x_if_eq (tgt := 47) C dX1_reads_40 (by decide) (fun _ => N47 _ _ _ fa3 pl3 en3 eg3 (fun y => nW (fri.mp y).2.2)) (fun q => absurd rfl q)
  subst een
  refine x_if_eq (tgt := 47) C dX1_reads_40 (by decide) (fun q => absurd q (by decide)) (fun _ => ?_)
  obtain ⟨L, l1, l2, l3, eF⟩ := eF1 (fri.mpr ⟨WL, WS, WI⟩)
  have B4 : g3 (a 9) = some (.inr (1, [.ref (a 7), .ref b, .int at_, .int (nI (n - 2)), .int fa3, .int pl3, .int 0])) := by rw [eg3]; exact hs_self ..
  rw [show L + 4 = n - 2 by omega] at eF
  have LP : ∀ (rem k i r tx1 : Nat) (g : PH) (κ ω : Nat → Nat) (gr : Nat → Option Nat) (Sx : MS), k + rem = 300 → F1 = f_rl rem Sx → EH c a h0 W b κ ω Sx r gr g → DA0 fb n Sx i (n - 2) → GR Sx (n - 2) r tx1 i → 19 ≤ i → r ≤ 100 → tx1 ≤ 240 * r → r0 ≤ r → tx ≤ tx1 → KR r0 tx S Sx → N4 Sx → X z (Bc (n - 2 - i)) (Bs (n - 2 - i)) (EQ g) 58 [some (.ref (a 9)), some (.ref b), some (.int (nI r0)), some (.int 1), some (.int (nI k))] [] := by
    intro rem
    induction rem with
    | zero =>
      intro k i r tx1 g κ ω gr Sx hk eR H A G i19 hr ht hr0 ht0 kx n4
      obtain rfl : k = 300 := by omega
      refine x_iload C dX1_reads_58 rfl ?_
      refine x_sipush (v := 300) C dX1_reads_60 (by decide) ?_
      exact x_icmp_ge (tgt := 92) C dX1_reads_63 (by decide) (fun _ => Yes _ _ g κ ω r gr _ Sx H eR A.2.2.2.2.2.2.2.1 A.2.2.2.2.2.2.2.2) (fun q => absurd (Int32.le_refl _) q)
    | succ rem ih =>
      intro k i r tx1 g κ ω gr Sx hk eR H A G i19 hr ht hr0 ht0 kx n4
      obtain ⟨xx, dd, fa, pl, B⟩ := id H
      obtain ⟨A1, A2, A3, A4, A5, A6, A7, A8, A9⟩ := id A
      obtain ⟨-, fat, fen⟩ := WFp.of A3 A4 A5 (by omega)
      have er : f_r Sx = r := G.r hr
      have etx : f_tx Sx = tx1 := G.tx (by omega)
      refine x_iload C dX1_reads_58 rfl ?_
      refine x_sipush (v := 300) C dX1_reads_60 (by decide) ?_
      refine x_icmp_ge (tgt := 92) C dX1_reads_63 (by decide) (fun q => absurd q (Int32.not_le.mpr (nI_lt (b := 300) (show k < 300 by omega) (by decide)))) (fun _ => ?_)
      refine x_iload_n C dX1_reads_66 rfl ?_
      refine x_if_eq (tgt := 92) C dX1_reads_67 (by decide) (fun q => absurd q (by decide)) (fun _ => ?_)
      refine x_aload_n C dX1_reads_70 rfl ?_
      refine e_get C Y kd_X1 2 (by decide) wf_X1_9 dX1_reads_71 B rfl ?_
      refine x_aload_n C dX1_reads_74 rfl ?_
      refine e_get C Y kd_X1 3 (by decide) wf_X1_15 dX1_reads_75 B rfl ?_
      refine x_icmp_ge (tgt := 92) C dX1_reads_78 (by decide) (fun q => ?_) (fun q78 => ?_)
      · have q9 : Sx.i 39 ≤ Sx.i 40 := q
        rw [A3, A4] at q9
        have ge : ¬ i < n - 2 := fun y => absurd (nI_lt y (by omega)) (Int32.not_lt.mpr q9)
        exact Yes _ _ g κ ω r gr _ Sx H (eR.trans (rl_stop (fun y => ge (by rw [fat, fen] at y; exact y.2)) _)) A8 A9
      have him : i < n - 2 := by
        have q9 : ¬ Sx.i 39 ≤ Sx.i 40 := q78
        rw [A3, A4] at q9
        exact (nI_ltI (by omega) (by omega)).mp (Int32.not_le.mp q9)
      rw [rl_go ⟨A8, by rw [fat, fen]; exact him⟩] at eR
      obtain ⟨⟨a', r', tx', G', ga, gr', gt⟩, g38⟩ := RR.rcd G A8 (by omega) i19 him hr ht
      have n4' := n4.rcd
      refine x_aload_n C dX1_reads_81 rfl ?_
      have back : ∀ (kc ks lo : Nat) (rr : Option Value) (g2 : PH), IPo c a h0 W b fb n lo (n - 2) Sx r rr g2 → i < lo → (∀ i', lo ≤ i' → i' ≤ n - 2 → Bc (n - 2 - i') ≤ kc ∧ Bs (n - 2 - i') ≤ ks) → X z kc ks (EQ g2) 85 [some (.ref (a 9)), some (.ref b), some (.int (nI r0)), some (.int 1), some (.int (nI k))] (rr.toList ++ []) := fun kc ks lo rr g2 hr2 hlo hk2 => by
        rcases hr2 with ⟨rfl, κ', ω', r2, gr2, j, H2, hj, A', k2, hrr, htt⟩ | ⟨rfl, nf, k2, κ', ω', gr2, x2, d2⟩
        · have ej : a' = j := (nI_eq (by have := G'.2.2.1; omega) (by have := A'.2.2.2.2.1; omega)).mp (G'.1.symm.trans A'.2.2.1)
          have er2 : r' = r2 := (nI_eq (by omega) (by have := H2.1.2.2.2.1; omega)).mp (G'.2.2.2.1.symm.trans H2.1.2.2.1)
          subst ej er2
          have et' : f_tx (f_rcd Sx) = tx' := G'.tx (by omega)
          refine o_istore_nE (L' := [some _, some _, some _, some _, some _]) C dX1_reads_85 (by rw [hn]; decide) rfl ?_
          refine o_iincE (v := nI (k + 1)) (L' := [some _, some _, some _, some _, some _]) C dX1_reads_86 rfl (nI_1 k) (by rw [hn]; decide) rfl ?_
          refine x_goto (tgt := 58) C dX1_reads_89 (by decide) ?_
          exact (ih (k + 1) a' r' tx' g2 κ' ω' gr2 (f_rcd Sx) (by omega) eR H2 A' G' (by omega) gr' gt (by omega) (by omega) (kx.tr (k2.le hr0 (by omega))) n4').room (hk2 a' hj A'.2.2.2.2.1).1 (hk2 a' hj A'.2.2.2.2.1).2
        · have eR2 : F1 = f_rcd Sx := eR.trans (rl_stop (fun y => nf y.1) _)
          refine o_istore_nE (L' := [some _, some _, some _, some _, some _]) C dX1_reads_85 (by rw [hn]; decide) rfl ?_
          refine o_iincE (v := nI (k + 1)) (L' := [some _, some _, some _, some _, some _]) C dX1_reads_86 rfl (nI_1 k) (by rw [hn]; decide) rfl ?_
          refine x_goto (tgt := 58) C dX1_reads_89 (by decide) ?_
          exact N58 kc ks g2 (k + 1) κ' ω' r gr2 Sx (by omega) x2 d2 hr0 kx (by rw [eR2]; exact k2.le hr0 (by omega)) (by rw [eR2]; exact n4'.pos nf)
      by_cases hv : fb i = 47 ∨ fb i = 31
      · refine k_callR (kc := Bc (n - 2 - i)) (ks := Bs (n - 2 - i)) (mc' := 0) (ms' := 0) (st := []) C Y hW E.cs (d_item0X hX R o1 o2 H A him er hv) rfl md_X1_readItem wi_X1_readItem ws_X1_readItem wm_X1_55 dX1_reads_82 rfl (by decide) (by decide) B rfl rfl (by decide) (fun rr g2 hg => back _ _ _ rr g2 hg (by omega) (fun i' a1 a2 => ?_))
        unfold Bc Bs
        omega
      · have hv' : ¬ fb i = 47 ∧ ¬ fb i = 31 := ⟨fun q => hv (Or.inl q), fun q => hv (Or.inr q)⟩
        have vp := vpos_ge fb i
        have cost : 3 ≤ Bc (n - 2 - i) ∧ 21 + itx fb i (n - 2) ≤ Bs (n - 2 - i) := by
          unfold Bc Bs itx
          split <;> omega
        refine X.room (kc' := (Bc (n - 2 - i) - 3) + 3) (ks' := (Bs (n - 2 - i) - (21 + itx fb i (n - 2))) + (21 + itx fb i (n - 2))) ?_ (by omega) (by omega)
        have hlo : i < ilo fb i (n - 2) := by
          unfold ilo
          split <;> omega
        refine k_callR (kc := Bc (n - 2 - i) - 3) (ks := Bs (n - 2 - i) - (21 + itx fb i (n - 2))) (st := []) C Y hW E.cs (d_itemX hX R o1 o2 H A him er G.2.2.2.2 ht hv') rfl md_X1_readItem wi_X1_readItem ws_X1_readItem wm_X1_55 dX1_reads_82 rfl (by decide) (by decide) B rfl rfl (by decide) (fun rr g2 hg => back _ _ _ rr g2 hg hlo (fun i' a1 a2 => ?_))
        unfold ilo at a1
        unfold itx Bc Bs at *
        by_cases e15 : fb i = 15
        · rw [if_pos e15] at a1 cost ⊢
          omega
        · rw [if_neg e15] at a1 cost ⊢
          omega
  refine x_iconst (v := 1) C dX1_reads_43 (by decide) ?_
  refine x_goto (tgt := 48) C dX1_reads_44 (by decide) ?_
  refine o_istore_nE (L' := [some _, some _, some _, some _, none]) C dX1_reads_48 (by rw [hn]; decide) rfl ?_
  refine x_aload_n C dX1_reads_49 rfl ?_
  refine x_bipush (v := 19) C dX1_reads_50 (by decide) ?_
  refine e_put C Y kd_X1 2 (by decide) rfl wf_X1_9 dX1_reads_52 B4 (Nat.le_of_ble_eq_true rfl) rfl rfl rfl ?_
  refine x_iconst (v := 0) C dX1_reads_55 (by decide) ?_
  refine o_istoreE (L' := [some _, some _, some _, some _, some _]) C dX1_reads_56 (by rw [hn]; decide) rfl ?_
  have P5 := EH.putD (S' := (S0.si 39 (nI (n - 2))).si 40 19) ⟨XE, D⟩ ((LSx.si S0 39 _ (by decide)).tr (LSx.si _ 40 _ (by decide))) (.ref b) 19 (nI (n - 2)) fa3 pl3 0 (Or.inl rfl)
  have e9 : hs g3 (a 9) (.inr (1, [.ref (a 7), .ref b, .int 19, .int (nI (n - 2)), .int fa3, .int pl3, .int 0])) = hs h2 (a 9) (.inr (1, [.ref (a 7), .ref b, .int 19, .int (nI (n - 2)), .int fa3, .int pl3, .int 0])) := by rw [eg3, hs_hs]
  have c37 : ((S0.si 39 (nI (n - 2))).si 40 19).i 37 = 0 := m37
  have c23 : ((S0.si 39 (nI (n - 2))).si 40 19).i 23 = nI r0 := m23
  have c34 : ((S0.si 39 (nI (n - 2))).si 40 19).i 34 = nI tx := m34
  have c41 : ((S0.si 39 (nI (n - 2))).si 40 19).i 41 = 0 := m41
  rw [← e9] at P5
  exact (LP 300 0 19 r0 tx _ κ ω gr _ rfl eF ⟨P5.1, P5.2, fa3, pl3, by rw [hs_self, c37]; rfl⟩ ⟨f0, hb, rfl, rfl, by omega, by omega, by omega, c41, Or.inl c37⟩ ⟨rfl, rfl, by omega, c23, c34⟩ (by omega) r100 htx (Nat.le_refl _) (Nat.le_refl _) (kr0.tr ((KR.si _ _ _).tr (KR.si _ _ _))) (by unfold N4; rw [c41]; decide)).room (by rw [show n - 2 - 19 = n - 21 by omega]; exact Nat.le_refl _) (by rw [show n - 2 - 19 = n - 21 by omega]; exact Nat.le_refl _)
end Reads
end
section
/-! MeterBus against the model: decode, clear, place; is one selected. -/
section Calls
variable {w : Wd} {c : Nat → ClassId} {a : Nat → Nat} {h9 : PH} {V : Nat → Prop} {α : Nat → Int64} {f : Nat → Option Nat} {κ κd κ' ω ωd ω' : Nat → Nat} {S S' : MS} {h g : PH} {r : Option Value}
/-- the decoder went on, and what it did is the model's -/
theorem ZI.ofD (Z : ZI c a h9 V α f κ κd ω ωd S h) (D : DK c (a 7) (a 8) (a 9) h (WD a κd h) κ' g) (E : EL c a κ' ω' S' g) (wf : WFa S' ∧ WFb S') (s : ∀ q j, q = 1 ∨ (10 ≤ q ∧ q ≤ 18) ∨ q = 21 → S'.a q j = S.a q j) (si : ∀ q, q = 2 ∨ q = 8 ∨ q = 9 ∨ q = 20 → S'.i q = S.i q) : ZI c a h9 V α f κ κ' ω ω' S' g := by
  have nw := fun q hq => Z.nw (q := q) hq
  obtain ⟨z1, z2, z3, z4, z5, z6, z7, z8⟩ := Z
  have st : ∀ q, WD a κd h q → g q = h q := fun q hq => (D.2.2.2.2.2 q hq).2.2.2.2.2
  have bn := z1.bus.nn.2
  have ra : ∀ i, (i = 0 ∨ i = 1 ∨ i = 2 ∨ i = 3 ∨ i = 4 ∨ i = 5 ∨ i = 6 ∨ i = 10) → g (a i) = h (a i) := fun i hi => st _ (z1.wd hi)
  refine ⟨z1.ofD D, z2.sm ⟨fun j => s 10 j (by omega), fun j => s 12 j (by omega)⟩, wf, z4.same (fun q hq => st q ⟨bn q (z4.1 q hq), z1.2.2.2.2.2.1 q (z4.1 q hq), nw q (Or.inl hq) 7 (by omega), nw q (Or.inl hq) 8 (by omega), nw q (Or.inl hq) 9 (by omega)⟩) (fun q j hq => s q j (by omega)), ?_, z6.go (ra 1 (by omega)) (ra 2 (by omega)) (si 2 (by omega)) (fun j => s 1 j (by omega)), z7.go (ra 0 (by omega)) (ra 10 (by omega)) (si 20 (by omega)) (fun j => s 21 j (by omega)), E⟩
  rw [EU, ra 3 (by omega), si 8 (by omega), si 9 (by omega)]
  exact z5
theorem ZI.wf' (hS : MH S) : WFa S ∧ WFb S := ⟨hS.1.mi.2.1, hS.1.mi.1⟩
/-- the list is cut to nothing -/
theorem ELx.nil {rn : Nat} {gr : Nat → Option Nat} (E : ELx c a κd ωd S h rn gr) (D : DK c (a 7) (a 8) (a 9) g V κd h) (e : S'.i 23 = nI 0) : ELx c a κd ωd S' (if 0 < rn then hs h (a 7) (.inr (4, [.ref (a 8), .int (nI 0)])) else h) 0 gr := by
  obtain ⟨x0, x1, x2, x3, x4, x5, x6, x7⟩ := E
  obtain ⟨l1, l2, l3, l4, l5, l6⟩ := D.2.2.2.2.1
  have w7 : ∀ q, ωd q ≠ 0 → q ≠ a 7 := fun q hq e => x0 q hq (by rw [e]; exact l1)
  have st : ∀ q, q ≠ a 7 → (if 0 < rn then hs h (a 7) (.inr (4, [.ref (a 8), .int (nI 0)])) else h) q = h q := fun q hq => by
    split
    · exact hs_ne hq
    · rfl
  refine ⟨x0, ?_, e, by omega, by rw [st _ (Ne.symm l4)]; exact x4, fun i q hi hq => ?_, fun i hi => absurd hi (Nat.not_lt_zero i), fun i hi => absurd hi (Nat.not_lt_zero i)⟩
  · split
    · exact hs_self ..
    · rw [show (0 : Nat) = rn by omega]; exact x1
  · have L := x5 i q hi hq
    exact L.go (st q (w7 q (by rw [L.1]; omega)))
/-- list.cutTo(0) -/
theorem k_nil (hX : Wx w c) {z : Fx} {cc : ByteArray} {kc ks pc : Nat} {L : List (Option Value)} {st : List Value} {lvl : Nat} (C : Cx z RX6 cc gw) (Y : Cty z c) (E : Cs z w lvl (40 * lvl)) (hf : 0 < lvl) (Z : ZI c a h9 V α f κ κd ω ωd S h) (d : decode cc pc = .ok (.invokevirtual 158, 3)) (hcat : (st.map fun v => v.category).sum ≤ 8)
    (k : ∀ g, ZI c a h9 V α f κ κd ω ωd ((S.si 23 0).si 34 0) g → X z kc ks (EQ g) (pc + 3) L st) : X z kc ks (EQ h) pc L (.int 0 :: .ref (a 7) :: st) := by
  obtain ⟨rn, gr, x⟩ := Z.2.2.2.2.2.2.2.x
  have dk := Z.1.dec
  refine u_callV (st := st) C Y hX.1 E (l_cutX hX.1 (i := 0) x.2.2.2.1 (by decide) x.2.1) md_X4_cutTo wi_X4_cutTo ws_X4_cutTo wm_X6_158 d rfl hf (by decide) x.2.1 rfl rfl hcat ?_
  refine k _ (Z.ofD ?_ (x.nil (S' := (S.si 23 0).si 34 0) dk (by rw [MS.si_i, if_neg (by decide), MS.si_i, if_pos rfl]; rfl)).el ⟨Z.2.2.1.1.si.si, Z.2.2.1.2.si.si⟩ (fun _ _ _ => rfl) (fun q hq => by rw [MS.si_i, if_neg (by omega), MS.si_i, if_neg (by omega)]))
  split
  · exact dk.putL (by decide)
  · exact dk
theorem zy_place (hX : Wx w c) (hS : MH S) (Z : ZI c a h9 V α f κ κd ω ωd S h) : T w gw yX6_place cX6_place 1 (some .int) 1 (40 * 1) 0 0 [.ref (a 0)] (EQ h) (fun r g => (∃ v, r = some (.int v)) ∧ ZQ c a h9 V (S.si 0 0) g) := by
  have hW := hX.1
  refine TA.intro hW rfl (by decide +kernel) (Nat.le_of_ble_eq_true rfl) (fun z C Y E hn h1 hA => ?_)
  rw [show h1 = h from hA]
  clear hA
  obtain ⟨-, -, ⟨fr, at_, en, fa, pl, mo, Bd, -⟩, -⟩ := Z.1.dec
  refine x_aload_n C dX6_place_0 rfl ?_
  refine e_get C Y kd_X6 3 (by decide) wf_X6_35 dX6_place_1 Z.x rfl ?_
  refine u_callV (st := []) C Y hW E.cs (d_placeOf hW Bd) md_X1_lastFaultPlace wi_X1_lastFaultPlace ws_X1_lastFaultPlace wm_X6_182 dX6_place_4 rfl (by decide) (by decide) Bd rfl rfl (by decide) ?_
  exact x_iret C E dX6_place_7 (fun g e => ⟨⟨_, rfl⟩, by rw [show g = _ from e]; exact ⟨hS.s0 0, α, f, κ, κd, ω, ωd, Z.s0 0⟩⟩)
theorem zy_clear (hX : Wx w c) (hS : MH S) (Z : ZI c a h9 V α f κ κd ω ωd S h) : T w gw yX6_clear cX6_clear 2 (some .int) 1 (40 * 1) 0 0 [.ref (a 0)] (EQ h) (fun r g => r = some (.int (S.i 23)) ∧ ZQ c a h9 V (((S.si 0 0).si 23 0).si 34 0) g) := by
  have hW := hX.1
  refine TA.intro hW rfl (by decide +kernel) (Nat.le_of_ble_eq_true rfl) (fun z C Y E hn h1 hA => ?_)
  rw [show h1 = h from hA]
  clear hA
  obtain ⟨rn, gr, x⟩ := Z.2.2.2.2.2.2.2.x
  have Z0 := Z.s0 0
  refine x_aload_n C dX6_clear_0 rfl ?_
  refine e_get C Y kd_X6 2 (by decide) wf_X6_26 dX6_clear_1 Z.x rfl ?_
  refine u_callV (st := []) C Y hW E.cs (l_size hW x.2.1) md_X4_size wi_X4_size ws_X4_size wm_X6_181 dX6_clear_4 rfl (by decide) (by decide) x.2.1 rfl rfl (by decide) ?_
  refine o_istore_nE (L' := [some _, some _]) C dX6_clear_7 (by rw [hn]; decide) rfl ?_
  refine x_aload_n C dX6_clear_8 rfl ?_
  refine e_get C Y kd_X6 2 (by decide) wf_X6_26 dX6_clear_9 Z.x rfl ?_
  refine x_iconst (v := 0) C dX6_clear_12 (by decide) ?_
  refine k_nil (st := []) hX C Y E.cs (by decide) Z0 dX6_clear_13 (by decide) (fun g Zg => ?_)
  refine x_iload_n C dX6_clear_16 rfl ?_
  exact x_iret C E dX6_clear_17 (fun q e => ⟨by rw [x.2.2.1], by rw [show q = _ from e]; exact ⟨hS.clear, α, f, κ, κd, ω, ωd, Zg⟩⟩)
theorem da_st (q n : Nat) : (∀ k j, k = 1 ∨ (10 ≤ k ∧ k ≤ 18) ∨ k = 21 → (f_da S q n).a k j = S.a k j) ∧ (∀ k, k = 2 ∨ k = 8 ∨ k = 9 ∨ k = 20 → (f_da S q n).i k = S.i k) := by
  constructor
  · intro k j hk
    exact da_a S q n (by rcases (show k = 1 ∨ k = 10 ∨ k = 11 ∨ k = 12 ∨ k = 13 ∨ k = 14 ∨ k = 15 ∨ k = 16 ∨ k = 17 ∨ k = 18 ∨ k = 21 by omega) with rfl | rfl | rfl | rfl | rfl | rfl | rfl | rfl | rfl | rfl | rfl <;> rfl) (by omega)
  · intro k hk
    exact da_i S q n (by rcases hk with rfl | rfl | rfl | rfl <;> rfl)
theorem da0_byt (wb : WFb S) {q : Nat} (hq : bk q = true) (n j : Nat) : byt ((f_da0 S q n).a 38 j) := (WFb.cp (S := ((S.si 41 0).si 36 (-1)).si 37 0) wb.si.si.si hq n) 38 j rfl
theorem zy_decode (hX : Wx w c) (hS : MH S) (Z : ZI c a h9 V α f κ κd ω ωd S h) : T w gw yX6_decode cX6_decode 1 (some .int) 8 (40 * 8) 420 3219 [.ref (a 0)] (EQ h) (fun r g => (∃ v, r = some (.int v)) ∧ ∃ n, S.i 2 = nI n ∧ n ≤ 300 ∧ ZQ c a h9 V (f_decode S n) g) := by
  have hW := hX.1
  refine TA.intro hW rfl (by decide +kernel) (Nat.le_of_ble_eq_true rfl) (fun z C Y E hn h1 hA => ?_)
  rw [show h1 = h from hA]
  clear hA
  have Z0 := Z.s0 0
  have hS0 := hS.s0 0
  obtain ⟨gb, n, R, e2, hb⟩ := Z0.2.2.2.2.2.1
  obtain ⟨rn, gr, x⟩ := Z0.2.2.2.2.2.2.2.x
  obtain ⟨r', tx, lr1, lr2, lr3, lr4⟩ := hS0.1.mi.2.2
  have er : r' = rn := (nI_eq (by omega) (by have := x.2.2.2.1; omega)).mp (lr1.symm.trans x.2.2.1)
  subst er
  have dk := Z0.1.dec
  obtain ⟨-, -, ⟨fr, at_, en, fa, pl, mo, Bd, -⟩, -⟩ := Z0.1.dec
  have n3 := R.2.2.2
  have e2' : S.i 2 = nI n := e2
  refine x_aload_n C dX6_decode_0 rfl ?_
  refine e_get C Y kd_X6 3 (by decide) wf_X6_35 dX6_decode_1 Z.x rfl ?_
  refine x_aload_n C dX6_decode_4 rfl ?_
  refine e_get C Y kd_X6 0 (by decide) wf_X6_10 dX6_decode_5 Z.x rfl ?_
  refine X.room (kc' := 0 + Bc (n - 21)) (ks' := 0 + Bs (n - 21)) ?_ (by unfold Bc; omega) (by unfold Bs; omega)
  refine k_callR (kc := 0) (ks := 0) (st := []) C Y hW E.cs (d_readsX hX R (Z.1.wd (i := 1) (by omega)) (Z.1.wd (i := 2) (by omega)) x dk (q0 := 1) (by decide) hb (da0_byt Z0.2.2.1.2 rfl n) lr3 lr4) rfl md_X1_reads wi_X1_reads ws_X1_reads wm_X6_170 dX6_decode_8 rfl (by decide) (by decide) Bd rfl rfl (by decide) (fun rr g hg => ?_)
  obtain ⟨κ9, ω9, r9, gr9, x9, D9, hr⟩ := hg
  have hD := hS.decode n
  have st := da_st (S := S.si 0 0) 1 n
  have Zg : ZI c a h9 V α f κ κ9 ω ω9 (f_decode S n) g := Z0.ofD D9 x9.el ⟨hD.1.mi.2.1, hD.1.mi.1⟩ st.1 st.2
  obtain ⟨⟨m, m1, Bl⟩, -, ⟨fr, at_, en, fa, pl, mo, Bd, -⟩, -⟩ := Zg.1.dec
  have T32 : ∀ v : Int32, X z 0 0 (EQ g) 32 [some (.ref (a 0))] [.int v] := fun v => x_iret C E dX6_decode_32 (fun q e => ⟨⟨_, rfl⟩, n, e2', n3, by rw [show q = _ from e]; exact ⟨hD, α, f, κ, κ9, ω, ω9, Zg⟩⟩)
  have T11 : ∀ v : Int32, X z 0 0 (EQ g) 11 [some (.ref (a 0))] [.int v] := fun v => by
    refine x_if_eq (tgt := 24) C dX6_decode_11 (by decide) (fun _ => ?_) (fun _ => ?_)
    · refine x_aload_n C dX6_decode_24 rfl ?_
      refine e_get C Y kd_X6 3 (by decide) wf_X6_35 dX6_decode_25 Zg.x rfl ?_
      refine u_callV (st := []) C Y hW E.cs (d_faultOf hW rfl Bd) md_X1_lastFault wi_X1_lastFault ws_X1_lastFault wm_X6_174 dX6_decode_28 rfl (by decide) (by decide) Bd rfl rfl (by decide) ?_
      exact x_ineg C dX6_decode_31 (T32 _)
    · refine x_aload_n C dX6_decode_14 rfl ?_
      refine e_get C Y kd_X6 2 (by decide) wf_X6_26 dX6_decode_15 Zg.x rfl ?_
      refine u_callV (st := []) C Y hW E.cs (l_size hW Bl) md_X4_size wi_X4_size ws_X4_size wm_X6_181 dX6_decode_18 rfl (by decide) (by decide) Bl rfl rfl (by decide) ?_
      exact x_goto (tgt := 32) C dX6_decode_21 (by decide) (T32 _)
  rcases hr with ⟨rfl, -⟩ | ⟨rfl, -⟩
  · exact T11 _
  · exact T11 _
theorem zy_isSelected (hX : Wx w c) (Z : ZI c a h9 V α f κ κd ω ωd S h) {mk : Int64} (hm : AB mk (fun b => S.a 19 b)) : T w gw yX6_isSelected cX6_isSelected 4 (some .boolean) 7 (40 * 7) 0 0 [.ref (a 0), .long mk] (EQ h) (fun r g => (r = some (.int 1) ∧ (f_putM S).i 7 = 1 ∧ ZI c a h9 V α f κ κd ω ωd (f_putM (f_putS (f_putM S) 64)) g) ∨ (r = some (.int 0) ∧ ¬ (f_putM S).i 7 = 1 ∧ ZI c a h9 V α f κ κd ω ωd (f_putM S) g)) := by
  have hW := hX.1
  refine TA.intro hW rfl (by decide +kernel) (Nat.le_of_ble_eq_true rfl) (fun z C Y E hn h1 hA => ?_)
  rw [show h1 = h from hA]
  clear hA
  refine x_aload_n C dX6_isSelected_0 rfl ?_
  refine e_get C Y kd_X6 1 (by decide) wf_X6_19 dX6_isSelected_1 Z.x rfl ?_
  refine x_lload_n C dX6_isSelected_4 rfl ?_
  refine k_putM (st := []) hX C Y E.cs (by decide) (by decide) Z hm dX6_isSelected_5 (by decide) (fun g Zg aw => ?_)
  obtain ⟨o1, o2⟩ := outV_M (S := S)
  have hm2 : AB mk (fun b => (f_putM S).a 19 b) := fun b hb => (hm b hb).trans (putM_bz rfl (by decide)).symm
  refine x_iconst (v := 1) C dX6_isSelected_8 (by decide) ?_
  refine x_icmp_ne (tgt := 16) C dX6_isSelected_9 (by decide) (fun q => ?_) (fun q => ?_)
  · refine x_iconst (v := 0) C dX6_isSelected_16 (by decide) ?_
    refine o_istore_nE (L' := [some _, some _, none, some _]) C dX6_isSelected_17 (by rw [hn]; decide) rfl ?_
    refine x_iload_n C dX6_isSelected_18 rfl ?_
    refine x_if_eq (tgt := 27) C dX6_isSelected_19 (by decide) (fun _ => ?_) (fun q => absurd rfl q)
    refine x_iload_n C dX6_isSelected_27 rfl ?_
    exact x_zret C E dX6_isSelected_28 (by decide) (fun g e => Or.inr ⟨rfl, fun y => q (o1.mpr y), by rw [show g = _ from e]; exact Zg⟩)
  · refine x_iconst (v := 1) C dX6_isSelected_12 (by decide) ?_
    refine x_goto (tgt := 17) C dX6_isSelected_13 (by decide) ?_
    refine o_istore_nE (L' := [some _, some _, none, some _]) C dX6_isSelected_17 (by rw [hn]; decide) rfl ?_
    refine x_iload_n C dX6_isSelected_18 rfl ?_
    refine x_if_eq (tgt := 27) C dX6_isSelected_19 (by decide) (fun q => absurd q (by decide)) (fun _ => ?_)
    refine x_aload_n C dX6_isSelected_22 rfl ?_
    refine x_lload_n C dX6_isSelected_23 rfl ?_
    refine k_callR (kc := 0) (ks := 0) (mc' := 0) (ms' := 0) (st := []) C Y hW E.cs (zy_reset hX Zg hm2) rfl md_X6_resetSelected wi_X6_resetSelected ws_X6_resetSelected wm_X6_221 dX6_isSelected_24 rfl (by decide) (by decide) Zg.x rfl rfl (by decide) (fun rr g2 hg => ?_)
    obtain ⟨rfl, Z2⟩ := hg
    refine x_iload_n C dX6_isSelected_27 rfl ?_
    exact x_zret C E dX6_isSelected_28 (by decide) (fun g e => Or.inl ⟨rfl, o1.mp q, by rw [show g = _ from e]; exact Z2⟩)
end Calls
end
