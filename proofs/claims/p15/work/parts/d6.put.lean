/-! The bus: frames put on it, against the model's. -/
/-- the bus at rest -/
def BB (c : Nat → ClassId) (u ma an aa : Nat) (h0 : PH) (W : Nat → Prop) (α : Nat → Int64) (f : Nat → Option Nat) (κ ω : Nat → Nat) (S : MS) (h : PH) : Prop :=
  BX c u ma an aa h0 W α f κ h ∧ RK f α S ∧ ER c α f κ ω S h ∧ (WFa S ∧ WFb S) ∧ h u = some (.inr (0, [.ref ma, .ref an, .int (S.i 8), .int (S.i 9)]))
def outV (S : MS) : Int32 := if S.i 7 = 1 then S.i 6 else if S.i 7 = 0 then 0 else -2
/-- what came is in the row an -/
def AW (c : Nat → ClassId) (h : PH) (an aa : Nat) (S : MS) : Prop := ∃ (g : Nat → Int32) (n : Nat), RW c h an aa g n ∧ (S.i 7 = 1 → S.i 6 = nI n ∧ ∀ j, j < n → g j = S.a 5 j) ∧ (¬ S.i 7 = 1 → n = 0)
def OC (c : Nat → ClassId) (u ma an aa : Nat) (h0 : PH) (W : Nat → Prop) (α : Nat → Int64) (f : Nat → Option Nat) (κ ω : Nat → Nat) (S : MS) (r : Option Value) (h : PH) : Prop := r = some (.int (outV S)) ∧ BB c u ma an aa h0 W α f κ ω S h ∧ AW c h an aa S
section Bus
variable {w : Wd} {c : Nat → ClassId} {u ma an aa n k m N : Nat} {h0 h g : PH} {W : Nat → Prop} {α : Nat → Int64} {f : Nat → Option Nat} {κ ω : Nat → Nat} {S S' : MS} {pg sz : Nat}
theorem rCut_0 (hn : n ≤ 300) : rCut n 0 = 0 := by
  unfold rCut
  split
  · rfl
  · rename_i q
    exact Decidable.byContradiction fun q2 => q ⟨Int32.le_refl _, nI_lt (a := 0) (show 0 < n by omega) (by omega)⟩
theorem BX.apu (D : BX c u ma an aa h0 W α f κ h) : u ≠ ma ∧ u ≠ an ∧ u ≠ aa := by
  obtain ⟨n, -, D⟩ := D
  exact ⟨D.2.2.2.2.2.1.2.2.2.2.1, D.2.2.2.2.2.1.2.2.2.2.2.1, D.2.2.2.2.2.1.2.2.2.2.2.2.1⟩
theorem u_outcomeX (hX : Wx w c) (I : IB c u ma an aa h0 W α f κ ω 12 S h) (a : Int32) {y : Int32} (hy : y = if a = 255 then 0 else S.i 7) : T w gw yX0_outcome cX0_outcome 2 (some .int) 1 (40 * 1) 0 0 [.ref u, .int y] (EQ h) (OC c u ma an aa h0 W α f κ ω (f_end S a)) := by
  have hW := hX.1
  refine TA.intro hW rfl (by decide +kernel) (Nat.le_of_ble_eq_true rfl) (fun z C Y E hn h1 hA => ?_)
  rw [show h1 = h from hA]
  clear hA
  obtain ⟨i1, i2, i3, i4, B, i6, t, t1, t2⟩ := I
  obtain ⟨n, g0, n90, Dn, R, hbt⟩ := i1.row
  obtain ⟨ap1, ap2, ap3⟩ := i1.apu
  have e7 : (f_end S a).i 7 = y := by
    unfold f_end
    rw [MS.si_i, if_neg (by decide), MS.si_i, if_pos rfl]
    exact hy.symm
  have e9 : (f_end S a).i 9 = S.i 9 + if 1 < y then 1 else 0 := by
    unfold f_end
    rw [MS.si_i, if_pos rfl, hy]
  have e6 : (f_end S a).i 6 = S.i 6 := rfl
  have e8 : (f_end S a).i 8 = S.i 8 := rfl
  have ea : ∀ q j, (f_end S a).a q j = S.a q j := fun _ _ => rfl
  have hy2 : ∃ t, t ≤ 12 ∧ y = nI t := by
    rw [hy]
    split
    · exact ⟨0, by omega, rfl⟩
    · exact ⟨t, t1, t2⟩
  have oR : outV (f_end S a) = if y = 1 then S.i 6 else if y = 0 then 0 else -2 := by unfold outV; rw [e7, e6]
  have wf : WFa (f_end S a) ∧ WFb (f_end S a) := ⟨i4.1.fin, i4.2.fin⟩
  have rk : RK f α (f_end S a) := i2.sm ⟨fun _ => rfl, fun _ => rfl⟩
  generalize f_end S a = T at e7 e9 e6 e8 ea oR wf rk E
  obtain ⟨ty, ty1, ty2⟩ := hy2
  refine x_iload_n C dX0_outcome_0 rfl ?_
  refine x_iconst (v := 1) C dX0_outcome_1 (by decide) ?_
  refine x_icmp_ne (tgt := 13) C dX0_outcome_2 (by decide) (fun q1 => ?_) (fun q1 => ?_)
  · have rc := r_cutTo hW R 0
    rw [rCut_0 R.2.2.2] at rc
    refine x_aload_n C dX0_outcome_13 rfl ?_
    refine e_get C Y kd_X0 1 (by decide) wf_X0_20 dX0_outcome_14 B rfl ?_
    refine x_iconst (v := 0) C dX0_outcome_17 (by decide) ?_
    refine u_callV (st := []) C Y hW E.cs rc md_X5_cutTo wi_X5_cutTo ws_X5_cutTo wm_X0_96 dX0_outcome_18 rfl (by decide) (by decide) R.2.1 rfl rfl (by decide) ?_
    have D0 : BX c u ma an aa h0 W α f κ (rowh c h an aa g0 0) := ⟨0, by decide, Dn.putA (by decide) (fun j hj => absurd hj (Nat.not_lt_zero j))⟩
    have R0 : RW c (rowh c h an aa g0 0) an aa g0 0 := RW.of R.1 (by decide)
    have B0 : rowh c h an aa g0 0 u = some (.inr (0, [.ref ma, .ref an, .int (S.i 8), .int (S.i 9)])) := (rw_ne ap2 ap3).trans B
    have er : ER c α f κ ω T (rowh c h an aa g0 0) := i3.same (fun q hq => by
      obtain ⟨a1, a2, -⟩ := Dn.apart (i3.1 q hq)
      exact rw_ne (Ne.symm a1) (Ne.symm a2)) (fun q j _ => ea q j)
    refine x_iload_n C dX0_outcome_21 rfl ?_
    refine x_if_ne (tgt := 27) C dX0_outcome_22 (by decide) (fun q0 => ?_) (fun q0 => ?_)
    · have gt : 1 < y := by
        rw [ty2]
        refine nI_lt (a := 1) (Nat.lt_of_not_le fun q => ?_) (by omega)
        rcases (show ty = 0 ∨ ty = 1 by omega) with e | e
        · exact q0 (by rw [ty2, e]; rfl)
        · exact q1 (by rw [ty2, e]; rfl)
      rw [if_pos gt] at e9
      refine x_aload_n C dX0_outcome_27 rfl ?_
      refine x_dup C dX0_outcome_28 rfl ?_
      refine e_get C Y kd_X0 3 (by decide) wf_X0_28 dX0_outcome_29 B0 rfl ?_
      refine x_iconst (v := 1) C dX0_outcome_32 (by decide) ?_
      refine x_iadd C dX0_outcome_33 ?_
      refine e_put C Y kd_X0 3 (by decide) rfl wf_X0_28 dX0_outcome_34 B0 (Nat.le_of_ble_eq_true rfl) rfl rfl rfl ?_
      refine x_bipush (v := -2) C dX0_outcome_37 (by decide) ?_
      refine x_iret C E dX0_outcome_39 (fun q e => ?_)
      rw [show q = _ from e]
      refine ⟨by rw [oR, if_neg q1, if_neg q0], ⟨D0.putU _ _, rk, er.same (fun q hq => hs_ne (fun e => (i3.1 q hq) (by rw [e]; exact Dn.2.2.2.2.2.1.1))) (fun _ _ _ => rfl), wf, by rw [hs_self, e8, e9]; rfl⟩, g0, 0, ⟨R0.1, by rw [hs_ne (Ne.symm ap2)]; exact R0.2.1, by rw [hs_ne (Ne.symm ap3)]; exact R0.2.2.1, R0.2.2.2⟩, fun q => absurd (e7.symm.trans q) q1, fun _ => rfl⟩
    · have gt : ¬ 1 < y := by rw [q0]; decide
      rw [if_neg gt] at e9
      refine x_iconst (v := 0) C dX0_outcome_25 (by decide) ?_
      refine x_iret C E dX0_outcome_26 (fun q e => ?_)
      rw [show q = _ from e]
      exact ⟨by rw [oR, if_neg q1, if_pos q0], ⟨D0, rk, er, wf, by rw [e8, e9, Int32.add_zero]; exact B0⟩, g0, 0, R0, fun q => absurd (e7.symm.trans q) q1, fun _ => rfl⟩
  · have n7 : ¬ S.i 7 = 0 := fun q => by
      rw [q, ite_self] at hy
      rw [hy] at q1
      exact absurd q1 (by decide)
    obtain ⟨g1, n1, R1, e61, eg⟩ := i6 n7
    have gt : ¬ 1 < y := by rw [q1]; decide
    rw [if_neg gt] at e9
    refine x_aload_n C dX0_outcome_5 rfl ?_
    refine e_get C Y kd_X0 1 (by decide) wf_X0_20 dX0_outcome_6 B rfl ?_
    refine u_callV (st := []) C Y hW E.cs (r_size hW R1) md_X5_size wi_X5_size ws_X5_size wm_X0_93 dX0_outcome_9 rfl (by decide) (by decide) R1.2.1 rfl rfl (by decide) ?_
    refine x_iret C E dX0_outcome_12 (fun q e => ?_)
    rw [show q = _ from e]
    exact ⟨by rw [oR, if_pos q1, e61], ⟨i1, rk, i3.same (fun _ _ => rfl) (fun q j _ => ea q j), wf, by rw [e8, e9, Int32.add_zero]; exact B⟩, g1, n1, R1, fun _ => ⟨e6.trans e61, fun j hj => (eg j hj).trans (ea 5 j).symm⟩, fun q => absurd (e7.trans q1) q⟩
/-- the bus begins -/
theorem BB.begin (D : BB c u ma an aa h0 W α f κ ω S h) : IB c u ma an aa h0 W α f κ ω 0 (f_begin S) (hs h u (.inr (0, [.ref ma, .ref an, .int (S.i 8 + 1), .int (S.i 9)]))) := by
  obtain ⟨i1, i2, i3, i4, B⟩ := D
  obtain ⟨n, g0, n90, Dn, R, hbt⟩ := i1.row
  exact ⟨i1.putU _ _, i2.sm ⟨fun _ => rfl, fun _ => rfl⟩, i3.same (fun q hq => hs_ne (fun e => (i3.1 q hq) (by rw [e]; exact Dn.2.2.2.2.2.1.1))) (fun _ _ _ => rfl), ⟨i4.1.bg, i4.2.bg⟩, by rw [hs_self]; rfl, fun q => absurd rfl q, 0, Nat.le_refl _, rfl⟩
theorem step_no {isS sel : Bool} {cm a : Int32} (e : S.a 10 k = 0) : f_step S isS sel cm a k = S := if_neg (fun q => q.1 e)
theorem step_nc {isS sel : Bool} {cm a : Int32} (e : ¬ f_cares S sel a k) : f_step S isS sel cm a k = S := if_neg e
theorem step_S {cm a : Int32} (e : f_cares S false a k) : f_step S true false cm a k = f_short S k cm a := (if_pos e).trans rfl
theorem step_L {cm a : Int32} (e : f_cares S false a k) (hc : cm = 83 ∨ cm = 115) : f_step S false false cm a k = f_long S k := by
  rw [f_step, if_pos e, f_does, if_neg (by decide), if_neg (by decide), if_pos hc]
theorem step_M {cm a : Int32} (e : ¬ S.a 10 k = 0) : f_step S false true cm a k = f_sel S k := by rw [step_sel, if_neg e]
theorem cares_iff {a : Int32} (h10 : ¬ S.a 10 k = 0) (hse : S.a 13 k = 0 ∨ S.a 13 k = 1) : f_cares S false a k ↔ mMeant (S.a 11 k) (S.a 13 k) a := by
  have n0 : ¬ S.a 13 k = 0 ↔ S.a 13 k = 1 := ⟨fun q => hse.resolve_left q, fun q => by rw [q]; decide⟩
  have l4 : (254 : Int32) ≤ a ↔ 253 < a := by
    rw [Int32.le_iff_toInt_le, Int32.lt_iff_toInt_lt, show (254 : Int32).toInt = 254 from by decide, show (253 : Int32).toInt = 253 from by decide]
    omega
  unfold f_cares mMeant
  by_cases q1 : a ≤ 250
  · rw [if_pos q1]
    have q2 : ¬ a = 253 := fun e => absurd (by rw [e] at q1; exact q1) (by decide : ¬ (253 : Int32) ≤ 250)
    have q3 : ¬ (254 : Int32) ≤ a := fun e => absurd (Int32.le_trans e q1) (by decide)
    constructor
    · intro g
      rcases g.2 with g | g | g | g
      · exact absurd g (by decide)
      · exact g.2.symm
      · exact absurd g.1 q2
      · exact absurd g q3
    · intro g
      exact ⟨h10, Or.inr (Or.inl ⟨q1, g.symm⟩)⟩
  · rw [if_neg q1]
    by_cases q2 : a = 253
    · rw [if_pos q2]
      constructor
      · intro g
        rcases g.2 with g | g | g | g
        · exact absurd g (by decide)
        · exact absurd g.1 q1
        · exact n0.mp g.2
        · rw [q2] at g; exact absurd g (by decide)
      · intro g
        exact ⟨h10, Or.inr (Or.inr (Or.inl ⟨q2, n0.mpr g⟩))⟩
    · rw [if_neg q2, ← l4]
      constructor
      · intro g
        rcases g.2 with g | g | g | g
        · exact absurd g (by decide)
        · exact absurd g.1 q1
        · exact absurd g.1 q2
        · exact g
      · intro g
        exact ⟨h10, Or.inr (Or.inr (Or.inr g))⟩
section Rows
variable {z : Fx} {cc : ByteArray} {kc ks pc : Nat} {L : List (Option Value)} {st : List Value} {lvl : Nat}
/-- meter.isMeant -/
theorem k_meantX (hX : Wx w c) (C : Cx z RX0 cc gw) (Y : Cty z c) (E : Cs z w lvl (40 * lvl)) (hl : 4 < lvl) (hk : k < 12) (em : f k = some m) (I : IB c u ma an aa h0 W α f κ ω N S h) (a : Int32) (d : decode cc pc = .ok (.invokevirtual 57, 3)) (hcat : (st.map fun v => v.category).sum ≤ 8)
    (kk : ∀ x : Int32, (x = 0 ↔ ¬ f_cares S false a k) → X z kc ks (EQ h) (pc + 3) L (.int x :: st)) : X z kc ks (EQ h) pc L (.int a :: .ref m :: st) := by
  have hW := hX.1
  obtain ⟨pg, sz, B, M, hb, k1, k2, k3⟩ := I.me hk em
  refine u_callV (st := st) C Y hW E (t_isMeant hW B k3 a) md_X2_isMeant wi_X2_isMeant ws_X2_isMeant wm_X0_57 d rfl (by omega) (by decide) B rfl rfl hcat (kk _ ?_)
  rw [cares_iff (I.2.1.ab hk em).1 k3]
  exact bI_0
/-- meter.looksAtMask -/
theorem k_looksX (hX : Wx w c) (C : Cx z RX0 cc gw) (Y : Cty z c) (E : Cs z w lvl (40 * lvl)) (hl : 4 < lvl) (hk : k < 12) (em : f k = some m) (I : IB c u ma an aa h0 W α f κ ω N S h) {mk cd : Int64} (hm1 : AB mk (fun b => S.a 3 (7 + b))) (hc : CB mk 4 cd) (d : decode cc pc = .ok (.invokevirtual 69, 3)) (hcat : (st.map fun v => v.category).sum ≤ 8)
    (kk : ∀ (g : PH) (x : Int32), (x = 0 ∨ x = 1) → S.i 7 + x = (f_sel S k).i 7 → IB c u ma an aa h0 W α f κ ω (N + 1) (f_sel S k) g → X z kc ks (EQ g) (pc + 3) L (.int x :: st)) : X z kc ks (EQ h) pc L (.ref an :: .long cd :: .long mk :: .ref m :: st) := by
  have hW := hX.1
  have hm := I.km em
  obtain ⟨pg, sz, B, M, hb, k1, k2, k3⟩ := I.me hk em
  obtain ⟨n, g0, n90, Dn, R, hbt⟩ := I.1.row
  have am := I.ap (q := m) (by rw [M.1]; omega)
  have hwa := I.2.2.2.1.1
  have hwb := I.2.2.2.1.2
  have fi := fits_S hm1 (I.2.1.ab hk em).2 hc
  obtain ⟨ap1, ap2, ap3⟩ := I.1.apu
  by_cases gA : (mk ^^^ α m) &&& cd = 0
  · have eS : f_sel S k = f_ack (S.sa 13 k 1) := if_pos (fi.mpr gA)
    have af : ∀ q j, q ≠ 5 → (f_sel S k).a q j = if q = 13 ∧ j = k then 1 else S.a q j := fun q j hq => by rw [eS, f_ack_a _ hq, MS.sa_a]
    refine u_callV (st := st) C Y hW E (t_looks_t hW B R (Ne.symm am.1) (Ne.symm am.2.1) mk cd gA) md_X2_looksAtMask wi_X2_looksAtMask ws_X2_looksAtMask wm_X0_69 d rfl (by omega) (by decide) B rfl rfl hcat ?_
    have D2 := (Dn.putM hm (S.a 11 k) 1 (S.a 14 k) (S.a 15 k) (S.a 16 k) k1 k2 (Or.inr rfl)).single g0
    refine kk _ 1 (Or.inr rfl) (by rw [eS]; rfl) (I.step hk em D2 (fun q hq nq => ?_) ?_ B ?_ (fun q j hq nj => ?_) (fun q j hq => ?_) (by rw [eS]; rfl) (by rw [eS]; rfl) ?_ ⟨fun j hj => (hwa j hj).sel, hwb.sel⟩ (fun _ => by rw [eS]; exact AN.ack R.1 _) (Or.inr (by rw [eS]; rfl)))
    · have aq := I.ap hq
      rw [rw_ne aq.1 aq.2.1, hs_ne nq]
    · rw [rw_ne ap2 ap3, hs_ne (Ne.symm am.2.2.1)]
    · rw [rw_ne am.1 am.2.1, hs_self, af 11 k (by decide), af 13 k (by decide), af 14 k (by decide), af 15 k (by decide), af 16 k (by decide)]
      simp
    · rw [af q j (by omega)]
      simp [nj]
    · rw [af q j (by omega)]
      simp [show q ≠ 13 by omega]
    · rw [af 14 k (by decide), af 15 k (by decide)]
      simp
      exact hb
  · have eS : f_sel S k = S.sa 13 k 0 := if_neg (fun q => gA (fi.mp q))
    have af : ∀ q j, (f_sel S k).a q j = if q = 13 ∧ j = k then 0 else S.a q j := fun q j => by rw [eS, MS.sa_a]
    refine u_callV (st := st) C Y hW E (t_looks_f hW B an mk cd gA) md_X2_looksAtMask wi_X2_looksAtMask ws_X2_looksAtMask wm_X0_69 d rfl (by omega) (by decide) B rfl rfl hcat ?_
    have D2 : BX c u ma an aa h0 W α f κ (hs h m (mF (α m) (S.a 11 k) 0 pg sz (S.a 14 k) (S.a 15 k) (S.a 16 k))) := ⟨n, n90, Dn.putM hm (S.a 11 k) 0 (S.a 14 k) (S.a 15 k) (S.a 16 k) k1 k2 (Or.inl rfl)⟩
    refine kk _ 0 (Or.inl rfl) (by rw [eS]; exact Int32.add_zero _) (I.step hk em D2 (fun q hq nq => hs_ne nq) (hs_ne (Ne.symm am.2.2.1)) B ?_ (fun q j hq nj => ?_) (fun q j hq => ?_) (by rw [eS]; rfl) (by rw [eS]; rfl) ?_ ⟨fun j hj => (hwa j hj).sel, hwb.sel⟩ (fun q7 => ?_) (Or.inl (by rw [eS]; rfl)))
    · rw [hs_self, af 11 k, af 13 k, af 14 k, af 15 k, af 16 k]
      simp
    · rw [af q j]
      simp [nj]
    · rw [af q j]
      simp [show q ≠ 13 by omega]
    · rw [af 14 k, af 15 k]
      simp
      exact hb
    · obtain ⟨g1, n1, R1, e61, eg⟩ := I.2.2.2.2.2.1 (fun q => q7 (by rw [eS]; exact q))
      exact ⟨g1, n1, ⟨R1.1, by rw [hs_ne (Ne.symm am.1)]; exact R1.2.1, by rw [hs_ne (Ne.symm am.2.1)]; exact R1.2.2.1, R1.2.2.2⟩, by rw [eS]; exact e61, fun j hj => by rw [af 5 j]; simp; exact eg j hj⟩
/-- the frame in the row b is the model's, a long one -/
def FL (fb : Nat → Int32) (nb : Nat) (S : MS) : Prop := ∃ L, 3 ≤ L ∧ L ≤ 252 ∧ nb = L + 6 ∧ S.a 3 1 = nI L ∧ ∀ j, j < nb → fb j = S.a 3 j
theorem FL.at {fb : Nat → Int32} {nb : Nat} (F : FL fb nb S) {j : Nat} (hj : j < nb) : rAt fb nb (nI j) = S.a 3 j := by
  obtain ⟨L, l1, l2, l3, l4, l5⟩ := F
  rw [rAt_in hj (by omega), l5 j hj]
theorem FL.ds {fb : Nat → Int32} {nb : Nat} (F : FL fb nb S) {d : Nat} (hd : d < 200) : nI nb - 6 - 3 = nI d ↔ S.a 3 1 = nI (d + 3) := by
  obtain ⟨L, l1, l2, l3, l4, l5⟩ := F
  rw [l4, l3, show nI (L + 6) - 6 = nI (L + 6 - 6) from nI_sub' (v := L + 6) (b := 6) (by omega), show nI (L + 6 - 6) - 3 = nI (L + 6 - 6 - 3) from nI_sub' (v := L + 6 - 6) (b := 3) (by omega)]
  constructor
  · intro e
    have := congrArg Int32.toNatClampNeg e
    rw [nI_clamp (by omega), nI_clamp (by omega)] at this
    exact congrArg nI (by omega)
  · intro e
    have := congrArg Int32.toNatClampNeg e
    rw [nI_clamp (by omega), nI_clamp (by omega)] at this
    exact congrArg nI (by omega)
theorem FL.A {fb : Nat → Int32} {nb : Nat} (F : FL fb nb S) : lgA fb nb ↔ S.a 3 6 = 80 ∧ S.a 3 1 = 3 := by
  have h6 := F.at (j := 6) (by obtain ⟨L, l1, l2, l3, -⟩ := F; omega)
  unfold lgA
  rw [show (6 : Int32) = nI 6 from rfl] at *
  rw [h6]
  have := F.ds (d := 0) (by omega)
  exact and_congr Iff.rfl this
theorem FL.B {fb : Nat → Int32} {nb : Nat} (F : FL fb nb S) : lgB fb nb ↔ S.a 3 6 = 81 ∧ S.a 3 1 = 6 ∧ S.a 3 7 = 1 ∧ S.a 3 8 = 122 ∧ S.a 3 9 ≤ 250 := by
  have h6 := F.at (j := 6) (by obtain ⟨L, l1, l2, l3, -⟩ := F; omega)
  have hd := F.ds (d := 3) (by omega)
  have big : S.a 3 1 = 6 → rAt fb nb 7 = S.a 3 7 ∧ rAt fb nb 8 = S.a 3 8 ∧ rAt fb nb 9 = S.a 3 9 := fun e => by
    have hL : 12 ≤ nb := by
      obtain ⟨L, l1, l2, l3, l4, -⟩ := F
      have := congrArg Int32.toNatClampNeg (l4.symm.trans (e.trans (show (6 : Int32) = nI 6 from rfl)))
      rw [nI_clamp (by omega), nI_clamp (by omega)] at this
      omega
    exact ⟨F.at (j := 7) (by omega), F.at (j := 8) (by omega), F.at (j := 9) (by omega)⟩
  unfold lgB
  constructor
  · intro g
    have e := hd.mp g.2.1
    obtain ⟨b1, b2, b3⟩ := big e
    exact ⟨h6.symm.trans g.1, e, b1.symm.trans g.2.2.1, b2.symm.trans g.2.2.2.1, by rw [← b3]; exact g.2.2.2.2⟩
  · intro g
    obtain ⟨b1, b2, b3⟩ := big g.2.1
    exact ⟨h6.trans g.1, hd.mpr g.2.1, b1.trans g.2.2.1, b2.trans g.2.2.2.1, by rw [b3]; exact g.2.2.2.2⟩
theorem long_i {q : Nat} (h6 : q ≠ 6) (h7 : q ≠ 7) : (f_long S k).i q = S.i q := by
  unfold f_long
  split
  · rw [f_ack_i _ h6 h7]; rfl
  · split
    · rw [f_ack_i _ h6 h7]; rfl
    · rfl
/-- meter.hearsLong -/
theorem k_longX (hX : Wx w c) (C : Cx z RX0 cc gw) (Y : Cty z c) (E : Cs z w lvl (40 * lvl)) (hl : 4 < lvl) (hk : k < 12) (em : f k = some m) (I : IB c u ma an aa h0 W α f κ ω N S h) {b ba nb : Nat} {fb : Nat → Int32} (Rb : RW c h0 b ba fb nb) (o1 : W b) (o2 : W ba) (F : FL fb nb S) (d : decode cc pc = .ok (.invokevirtual 85, 3)) (hcat : (st.map fun v => v.category).sum ≤ 8)
    (kk : ∀ (g : PH) (x : Int32), (x = 0 ∨ x = 1) → S.i 7 + x = (f_long S k).i 7 → IB c u ma an aa h0 W α f κ ω (N + 1) (f_long S k) g → X z kc ks (EQ g) (pc + 3) L (.int x :: st)) : X z kc ks (EQ h) pc L (.ref an :: .ref b :: .ref m :: st) := by
  have hW := hX.1
  have hm := I.km em
  obtain ⟨pg, sz, B, M, hb, k1, k2, k3⟩ := I.me hk em
  obtain ⟨n, g0, n90, Dn, R, hbt⟩ := I.1.row
  have am := I.ap (q := m) (by rw [M.1]; omega)
  have hwa := I.2.2.2.1.1
  have hwb := I.2.2.2.1.2
  obtain ⟨ap1, ap2, ap3⟩ := I.1.apu
  have R1 := Dn.out Rb o1 o2
  by_cases gA : lgA fb nb
  · have eS : f_long S k = f_ack (f_forget S k) := if_pos (F.A.mp gA)
    have af : ∀ q j, q ≠ 5 → (f_long S k).a q j = if q = 14 ∧ j = k then -1 else if q = 15 ∧ j = k then -1 else S.a q j := fun q j hq => by rw [eS, f_ack_a _ hq, f_forget, MS.sa_a, MS.sa_a]
    refine u_callV (st := st) C Y hW E (t_long_a hW B R (Ne.symm am.1) (Ne.symm am.2.1) R1 gA) md_X2_hearsLong wi_X2_hearsLong ws_X2_hearsLong wm_X0_85 d rfl (by omega) (by decide) B rfl rfl hcat ?_
    have D2 := (Dn.putM hm (S.a 11 k) (S.a 13 k) (-1) (-1) (S.a 16 k) k1 k2 k3).single g0
    refine kk _ 1 (Or.inr rfl) (by rw [eS]; rfl) (I.step hk em D2 (fun q hq nq => ?_) ?_ B ?_ (fun q j hq nj => ?_) (fun q j hq => ?_) (long_i (by decide) (by decide)) (long_i (by decide) (by decide)) ?_ ⟨fun j hj => (hwa j hj).lng, hwb.lng⟩ (fun _ => by rw [eS]; exact AN.ack R.1 _) (Or.inr (by rw [eS]; rfl)))
    · have aq := I.ap hq
      rw [rw_ne aq.1 aq.2.1, hs_ne nq]
    · rw [rw_ne ap2 ap3, hs_ne (Ne.symm am.2.2.1)]
    · rw [rw_ne am.1 am.2.1, hs_self, af 11 k (by decide), af 13 k (by decide), af 14 k (by decide), af 15 k (by decide), af 16 k (by decide)]
      simp
    · rw [af q j (by omega)]
      simp [nj]
    · rw [af q j (by omega)]
      simp [show q ≠ 14 by omega, show q ≠ 15 by omega]
    · rw [af 14 k (by decide), af 15 k (by decide)]
      simp
      exact Or.inl ⟨rfl, rfl⟩
  · have nA : ¬ (S.a 3 6 = 80 ∧ S.a 3 1 = 3) := fun q => gA (F.A.mpr q)
    by_cases gB : lgB fb nb
    · have gB2 := F.B.mp gB
      have eS : f_long S k = f_ack (S.sa 11 k (S.a 3 9)) := by unfold f_long; rw [if_neg nA, if_pos gB2]
      have e9 : rAt fb nb 9 = S.a 3 9 := F.at (j := 9) (by
        obtain ⟨L, l1, l2, l3, l4, -⟩ := F
        have := congrArg Int32.toNatClampNeg (l4.symm.trans (gB2.2.1.trans (show (6 : Int32) = nI 6 from rfl)))
        rw [nI_clamp (by omega), nI_clamp (by omega)] at this
        omega)
      have af : ∀ q j, q ≠ 5 → (f_long S k).a q j = if q = 11 ∧ j = k then S.a 3 9 else S.a q j := fun q j hq => by rw [eS, f_ack_a _ hq, MS.sa_a]
      have tl := t_long_b hW B R (Ne.symm am.1) (Ne.symm am.2.1) R1 gB
      rw [e9] at tl
      refine u_callV (st := st) C Y hW E tl md_X2_hearsLong wi_X2_hearsLong ws_X2_hearsLong wm_X0_85 d rfl (by omega) (by decide) B rfl rfl hcat ?_
      have D2 := (Dn.putM hm (S.a 3 9) (S.a 13 k) (S.a 14 k) (S.a 15 k) (S.a 16 k) k1 k2 k3).single g0
      refine kk _ 1 (Or.inr rfl) (by rw [eS]; rfl) (I.step hk em D2 (fun q hq nq => ?_) ?_ B ?_ (fun q j hq nj => ?_) (fun q j hq => ?_) (long_i (by decide) (by decide)) (long_i (by decide) (by decide)) ?_ ⟨fun j hj => (hwa j hj).lng, hwb.lng⟩ (fun _ => by rw [eS]; exact AN.ack R.1 _) (Or.inr (by rw [eS]; rfl)))
      · have aq := I.ap hq
        rw [rw_ne aq.1 aq.2.1, hs_ne nq]
      · rw [rw_ne ap2 ap3, hs_ne (Ne.symm am.2.2.1)]
      · rw [rw_ne am.1 am.2.1, hs_self, af 11 k (by decide), af 13 k (by decide), af 14 k (by decide), af 15 k (by decide), af 16 k (by decide)]
        simp
      · rw [af q j (by omega)]
        simp [nj]
      · rw [af q j (by omega)]
        simp [show q ≠ 11 by omega]
      · rw [af 14 k (by decide), af 15 k (by decide)]
        simp
        exact hb
    · have nB : ¬ (S.a 3 6 = 81 ∧ S.a 3 1 = 6 ∧ S.a 3 7 = 1 ∧ S.a 3 8 = 122 ∧ S.a 3 9 ≤ 250) := fun q => gB (F.B.mpr q)
      have eS : f_long S k = S := by unfold f_long; rw [if_neg nA, if_neg nB]
      refine u_callV (st := st) C Y hW E (t_long_c hW B R1 gA gB an) md_X2_hearsLong wi_X2_hearsLong ws_X2_hearsLong wm_X0_85 d rfl (by omega) (by decide) B rfl rfl hcat ?_
      exact kk _ 0 (Or.inl rfl) (by rw [eS]; exact Int32.add_zero _) (by rw [eS]; exact I.more)
end Rows
end Bus
