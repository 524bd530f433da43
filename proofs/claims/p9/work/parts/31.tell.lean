section
/-! MeterBus against the model: found, readOut. -/
theorem rm_i (S : MS) (k q : Nat) : ∀ n, (f_rm S k n).i q = S.i q
  | 0 => rfl
  | n + 1 => by rw [f_rm, MS.sa_i, rm_i S k q n]
theorem rm_w (S : MS) (k q j : Nat) : ∀ n, (f_rm S k n).w q j = S.w q j
  | 0 => rfl
  | n + 1 => by rw [f_rm, MS.sa_w, rm_w S k q j n]
theorem rm_19 (S : MS) (k : Nat) {b : Nat} : ∀ n, b < n → (f_rm S k n).a 19 b = S.a 21 (8 * k + b)
  | 0, h => absurd h (Nat.not_lt_zero b)
  | n + 1, h => by
    rw [f_rm, MS.sa_a]
    by_cases e : b = n
    · subst e; rw [if_pos ⟨rfl, rfl⟩]
    · rw [if_neg (fun y => e y.2), rm_19 S k n (by omega)]
theorem ro_0 {t q : Nat} : ∀ {S : MS}, (f_ro t q S).2.i 0 = S.i 0 := by
  induction t generalizing q with
  | zero => intro S; rfl
  | succ t ih =>
    intro S
    have p0 : (f_putS S (f_roC q)).i 0 = S.i 0 := f_putS_i _ _ (by decide) (by decide) (by decide) (by decide) (by decide)
    have d0 : ∀ n, (f_da (f_putS S (f_roC q)) 5 n).i 0 = S.i 0 := fun n => (da_i _ 5 n rfl).trans p0
    rw [f_ro]
    split
    · split
      · show (((f_da _ 5 _).si 23 0).si 34 0).i 0 = _
        rw [MS.si_i, if_neg (by decide), MS.si_i, if_neg (by decide)]
        exact d0 _
      · split
        · exact d0 _
        · rw [ih]; exact d0 _
    · show (((f_putS S (f_roC q)).si 23 0).si 34 0).i 0 = _
      rw [MS.si_i, if_neg (by decide), MS.si_i, if_neg (by decide)]
      exact p0
theorem ro0_0 (S : MS) (k : Nat) : (f_ro0 S k).i 0 = 0 := by
  unfold f_ro0
  rw [f_putM_i _ (by decide) (by decide) (by decide) (by decide) (by decide), rm_i, MS.si_i, if_neg (by decide), MS.si_i, if_neg (by decide), MS.si_i, if_neg (by decide), MS.si_i, if_pos rfl]
theorem readOut_0 (S : MS) (k : Nat) : (f_readOut S k).2.i 0 = 0 := by
  unfold f_readOut
  split
  · rw [ro_0, f_putM_i _ (by decide) (by decide) (by decide) (by decide) (by decide), f_putS_i _ _ (by decide) (by decide) (by decide) (by decide) (by decide), ro0_0]
  · exact ro0_0 S k
section Calls
variable {w : Wd} {c : Nat → ClassId} {a : Nat → Nat} {h9 : PH} {V : Nat → Prop} {α : Nat → Int64} {f : Nat → Option Nat} {κ κd ω ωd : Nat → Nat} {S S' : MS} {h g : PH}
theorem fnd_iff {k : Int32} {fn : Nat} (e : S.i 20 = nI fn) (h1 : fn ≤ 12) : ((0 : Int32) ≤ k ∧ k ≤ S.i 20 - 1) ↔ ∃ j, j < fn ∧ k = nI j := by
  rw [e]
  constructor
  · intro y
    obtain ⟨j, hj, rfl⟩ := nI_of (Int32.not_lt.mpr y.1)
    by_cases q : fn = 0
    · subst q
      exact absurd (Int32.le_trans y.1 y.2) (by decide)
    · have y2 := y.2
      rw [show nI fn - 1 = nI (fn - 1) from nI_sub' (v := fn) (b := 1) (by omega)] at y2
      have := (nI_leI hj (by omega)).mp y2
      exact ⟨j, by omega, rfl⟩
  · rintro ⟨j, hj, rfl⟩
    refine ⟨nI_le (a := 0) (by omega) (by omega), ?_⟩
    rw [show nI fn - 1 = nI (fn - 1) from nI_sub' (v := fn) (b := 1) (by omega)]
    exact nI_le (by omega) (by omega)
theorem zy_isFound (hX : Wx w c) (Z : ZI c a h9 V α f κ κd ω ωd S h) (k : Int32) : T w gw yX6_isFoundOne cX6_isFoundOne 2 (some .boolean) 0 (40 * 0) 0 0 [.ref (a 0), .int k] (EQ h) (fun r g => g = h ∧ ((r = some (.int 0) ∧ ¬ ((0 : Int32) ≤ k ∧ k ≤ S.i 20 - 1)) ∨ (r = some (.int 1) ∧ ∃ j fn, j < fn ∧ fn ≤ 12 ∧ S.i 20 = nI fn ∧ k = nI j))) := by
  obtain ⟨fn, gf, Bx, e20, f1, -⟩ := Z.2.2.2.2.2.2.1
  have fi := fnd_iff (k := k) e20 f1
  refine TA.intro hX.1 rfl (by decide +kernel) (Nat.le_of_ble_eq_true rfl) (fun z C Y E hn h1 hA => ?_)
  rw [show h1 = h from hA]
  clear hA
  have T22 : ¬ ((0 : Int32) ≤ k ∧ k ≤ S.i 20 - 1) → X z 0 0 (EQ h) 22 [some (.ref (a 0)), some (.int k)] [] := fun nf => by
    refine x_iconst (v := 0) C dX6_isFoundOne_22 (by decide) ?_
    exact x_zret C E dX6_isFoundOne_23 (by decide) (fun g e => ⟨e, Or.inl ⟨rfl, nf⟩⟩)
  refine x_iload_n C dX6_isFoundOne_0 rfl ?_
  refine x_if_lt (tgt := 22) C dX6_isFoundOne_1 (by decide) (fun q => T22 (fun y => absurd q (Int32.not_lt.mpr y.1))) (fun c1 => ?_)
  obtain ⟨j, hj, rfl⟩ := nI_of c1
  refine x_iload_n C dX6_isFoundOne_4 rfl ?_
  refine x_aload_n C dX6_isFoundOne_5 rfl ?_
  refine e_get C Y kd_X6 5 (by decide) wf_X6_43 dX6_isFoundOne_6 Bx rfl ?_
  refine x_icmp_ge (tgt := 22) C dX6_isFoundOne_9 (by decide) (fun q => T22 (fun y => by obtain ⟨j2, h2, e2⟩ := fi.mp y; rw [e2] at q; exact absurd (nI_lt h2 (by omega)) (Int32.not_lt.mpr q))) (fun c9 => ?_)
  have hjf : j < fn := (nI_ltI hj (by omega)).mp (Int32.not_le.mp c9)
  refine x_iload_n C dX6_isFoundOne_12 rfl ?_
  refine x_bipush (v := 12) C dX6_isFoundOne_13 (by decide) ?_
  refine x_icmp_ge (tgt := 22) C dX6_isFoundOne_15 (by decide) (fun q => absurd (nI_lt (b := 12) (show j < 12 by omega) (by decide)) (Int32.not_lt.mpr q)) (fun c2 => ?_)
  refine x_iconst (v := 1) C dX6_isFoundOne_18 (by decide) ?_
  refine x_goto (tgt := 23) C dX6_isFoundOne_19 (by decide) ?_
  exact x_zret C E dX6_isFoundOne_23 (by decide) (fun g e => ⟨e, Or.inr ⟨rfl, j, fn, hjf, f1, e20, rfl⟩⟩)
theorem mh_ro0 {j : Nat} (hS : MH S) : MH (f_rm ((((S.si 0 0).si 23 0).si 34 0).si 36 (-1)) j 8) := by
  have g0 : MG (f_rm ((((S.si 0 0).si 23 0).si 34 0).si 36 (-1)) j 8) := by
    obtain ⟨m, m1, m2⟩ := hS.1.buf
    obtain ⟨f, f1, f2⟩ := hS.1.fnd
    exact ⟨hS.1.mi.ro0, hS.1.ds.sm ⟨fun _ => (rm_a _ j (by decide) 8).trans rfl, fun _ => (rm_a _ j (by decide) 8).trans rfl⟩, ⟨m, ((f_rm_i _ j 2 8).trans rfl).trans m1, m2⟩, ⟨f, ((f_rm_i _ j 20 8).trans rfl).trans f1, f2⟩⟩
  exact ⟨g0, ⟨0, (f_rm_i _ j 23 8).trans rfl, by decide, fun j hj => absurd hj (Nat.not_lt_zero j)⟩, fun k => by rw [rm_a _ j (by decide) 8]; exact hS.2.2 k⟩
theorem zy_readOut (hX : Wx w c) (hS : MH S) (Z : ZI c a h9 V α f κ κd ω ωd S h) (k : Int32) : TCX w yX6_readOut cX6_readOut 4 (some .int) 1050 8040 [.ref (a 0), .int k] h
    (fun r g => ∃ v v' S', r = some (.int v) ∧ (∀ M, Wm w M → TF w M yX7_readOut cX7_readOut 4 (some .int) 5 [.int k] S (some (.int v')) S') ∧ S'.i 0 = 0 ∧ ZQ c a h9 V S' g) (fun En g => ∃ v' S', (∀ M, Wm w M → TF w M yX7_readOut cX7_readOut 4 (some .int) 5 [.int k] S (some (.int v')) S') ∧ (En = IOE ∧ S'.i 0 = 1) ∧ ZQ c a h9 V S' g) := by
  have hW := hX.1
  have Bx := Z.x
  refine TCX.intro hX.1 rfl (by decide +kernel) (Nat.le_of_ble_eq_true rfl) (fun z C Y E hn => ?_)
  refine x_aload_n C dX6_readOut_0 rfl ?_
  refine x_iload_n C dX6_readOut_1 rfl ?_
  refine k_callR (kc := 1050) (ks := 8040) (mc' := 0) (ms' := 0) (st := []) C Y hW E.1 (zy_isFound hX Z k) rfl md_X6_isFoundOne wi_X6_isFoundOne ws_X6_isFoundOne wm_X6_151 dX6_readOut_2 rfl (by decide) (by decide) Bx rfl rfl (by decide) (fun r g hg => ?_)
  obtain ⟨eg, hg⟩ := hg
  rw [eg]
  rcases hg with ⟨rfl, nf⟩ | ⟨rfl, j, fn, hjf, f12, e20, rfl⟩
  · refine x_if_ne (tgt := 18) C dX6_readOut_5 (by decide) (fun q => absurd rfl q) (fun _ => ?_)
    exact u_thr (kc := 1049) (ks := 8034) hX C E exs_IOE at_76 wc_X6_72 wz_IndexOutOfBoundsException (show (156, "no such found one") ∈ txts by simp [txts]) dX6_readOut_8 dX6_readOut_11 dX6_readOut_12 dX6_readOut_14 dX6_readOut_17 (by decide) (fun g e => ⟨0, S.si 0 1, fun M hM => s_readOut_f hM k nf, ⟨rfl, by rw [MS.si_i, if_pos rfl]⟩, by rw [show g = h from e]; exact ⟨hS.s0 1, α, f, κ, κd, ω, ωd, Z.s0 1⟩⟩)
  refine x_if_ne (tgt := 18) C dX6_readOut_5 (by decide) (fun _ => ?_) (fun q => absurd q (by decide))
  refine E.go C Y (fun z' C Y E hn1 => ?_)
  rw [hn] at hn1
  have hn := hn1
  obtain ⟨t1, ht1⟩ := Y.2.2.1
  refine x_aload_n C dX6_readOut_18 rfl ?_
  refine e_get C Y kd_X6 2 (by decide) wf_X6_26 dX6_readOut_19 Bx rfl ?_
  refine x_iconst (v := 0) C dX6_readOut_22 (by decide) ?_
  have hj : j < 12 := by omega
  refine k_nil (st := []) hX C Y E.cs (by decide) (Z.s0 0) dX6_readOut_23 (by decide) (fun g Zg => ?_)
  have hS1 : MH (((S.si 0 0).si 23 0).si 34 0) := hS.clear
  obtain ⟨-, -, ⟨fr, at_, en, fa, pl, mo, Bd, hmo⟩, -⟩ := Zg.1.dec
  refine x_aload_n C dX6_readOut_26 rfl ?_
  refine e_get C Y kd_X6 3 (by decide) wf_X6_35 dX6_readOut_27 Zg.x rfl ?_
  refine u_callV (st := []) C Y hW E.cs (d_forget hW Bd) md_X1_forgetFault wi_X1_forgetFault ws_X1_forgetFault wm_X6_159 dX6_readOut_30 rfl (by decide) (by decide) Bd rfl rfl (by decide) ?_
  obtain ⟨rn1, gr1, x1⟩ := Zg.2.2.2.2.2.2.2.x
  have P1 := EH.putD (S' := (((S.si 0 0).si 23 0).si 34 0).si 36 (-1)) ⟨x1, Zg.1.dec⟩ (LSx.si _ 36 _ (by decide)) fr at_ en 0 (-1) mo hmo
  have Z2 : ZI c a h9 V α f κ κd ω ωd ((((S.si 0 0).si 23 0).si 34 0).si 36 (-1)) (hs g (a 9) (.inr (1, [.ref (a 7), fr, .int at_, .int en, .int 0, .int (-1), .int mo]))) := Zg.ofD P1.2 P1.1.el ⟨Zg.2.2.1.1.si, Zg.2.2.1.2.si⟩ (fun _ _ _ => rfl) (fun q hq => by rw [MS.si_i, if_neg (by omega)])
  have hS2 : MH (f_rm ((((S.si 0 0).si 23 0).si 34 0).si 36 (-1)) j 8) := mh_ro0 hS
  have Z2' : ZI c a h9 V α f κ κd ω ωd (f_rm ((((S.si 0 0).si 23 0).si 34 0).si 36 (-1)) j 8) (hs g (a 9) (.inr (1, [.ref (a 7), fr, .int at_, .int en, .int 0, .int (-1), .int mo]))) := Z2.mod ⟨hS2.1.mi.2.1, hS2.1.mi.1⟩ (fun q j hq => f_rm_a _ _ _ (by omega)) (fun q _ => rm_i _ _ _ _) ⟨fun q _ => rm_i _ _ _ _, fun q j => rm_w _ _ _ _ _, fun q j q1 q2 => f_rm_a _ _ _ (by omega)⟩
  obtain ⟨fn2, gf2, Bx2, e20', f2, Bf2, af2⟩ := Z2'.2.2.2.2.2.2.1
  have efn : fn2 = fn := by
    rw [rm_i] at e20'
    have e21 : S.i 20 = nI fn2 := e20'
    exact (nI_eq (by omega) (by omega)).mp (e21.symm.trans e20)
  subst efn
  have hm : AB (gf2 j) (fun b => (f_rm ((((S.si 0 0).si 23 0).si 34 0).si 36 (-1)) j 8).a 19 b) := fun b hb => (af2 j hjf b hb).trans (by
    show (f_rm ((((S.si 0 0).si 23 0).si 34 0).si 36 (-1)) j 8).a 21 (8 * j + b) = (f_rm ((((S.si 0 0).si 23 0).si 34 0).si 36 (-1)) j 8).a 19 b
    rw [rm_19 _ _ _ hb, f_rm_a _ _ _ (by decide)])
  refine x_aload_n C dX6_readOut_33 rfl ?_
  refine x_aload_n C dX6_readOut_34 rfl ?_
  refine e_get C Y kd_X6 4 (by decide) wf_X6_39 dX6_readOut_35 Z2'.x rfl ?_
  refine x_iload_n C dX6_readOut_38 rfl ?_
  refine x_lald C ht1 dX6_readOut_39 (fun q e => by rw [e]; exact Bf2) (vp_in_nI hj (by decide)) ?_
  rw [nI_clamp (by omega)]
  refine k_callR (kc := 1050) (ks := 8040) (mc' := 0) (ms' := 0) (st := []) C Y hW E.cs (zy_isSelected hX Z2' hm) rfl md_X6_isSelected wi_X6_isSelected ws_X6_isSelected wm_X6_162 dX6_readOut_40 rfl (by decide) (by decide) Z2'.x rfl rfl (by decide) (fun rr g3 hg => ?_)
  -- what is to be shown at the end
  have fin : ∀ (v : Int32) (q g : PH) (κ κd ω ωd : Nat → Nat) (Q : MS), q = g → (f_readOut S j).2 = Q → ZI c a h9 V α f κ κd ω ωd Q g → ∃ v0 v' S', some (Value.int v) = some (.int v0) ∧ (∀ M, Wm w M → TF w M yX7_readOut cX7_readOut 4 (some .int) 5 [.int (nI j)] S (some (.int v')) S') ∧ S'.i 0 = 0 ∧ ZQ c a h9 V S' q := fun v q g κ κd ω ωd Q e1 e2 ZQ' => ⟨v, (f_readOut S j).1, (f_readOut S j).2, rfl, fun M hM => s_readOut hM hS.1.mi j fn2 e20 hjf (by omega), readOut_0 S j, hS.readOut, α, f, κ, κd, ω, ωd, by rw [e1, e2]; exact ZQ'⟩
  have eRO : (f_ro0 S j).i 7 = 1 → f_readOut S j = f_ro 10 0 (f_putM (f_putS (f_ro0 S j) 64)) := fun y => by unfold f_readOut; rw [if_pos y]
  have eRN : ¬ (f_ro0 S j).i 7 = 1 → f_readOut S j = (-1, f_ro0 S j) := fun y => by unfold f_readOut; rw [if_neg y]
  have eR0 : f_putM (f_rm ((((S.si 0 0).si 23 0).si 34 0).si 36 (-1)) j 8) = f_ro0 S j := rfl
  rw [eR0] at hg
  have hS3 : MH (f_ro0 S j) := hS2.putM
  generalize f_ro0 S j = R0 at hg eRO eRN hS3
  generalize f_readOut S j = FR at fin eRO eRN
  have LP : ∀ (r i : Nat) (Q : MS) (κ κd ω ωd : Nat → Nat) (h : PH), i + r = 10 → MH Q → ZI c a h9 V α f κ κd ω ωd Q h → FR = f_ro r i Q → X z' (105 * r) (804 * r) (EQ h) 52 [some (.ref (a 0)), some (.int (nI j)), some (.int 1), some (.int (nI i))] [] := by
    intro r
    have T148 : ∀ (kc ks : Nat) (h : PH) (L2 : List (Option Value)) (κ κd ω ωd : Nat → Nat) (Q : MS), ZI c a h9 V α f κ κd ω ωd Q h → FR.2 = Q → X z' kc ks (EQ h) 148 (some (.ref (a 0)) :: L2) [] := fun kc ks h L2 κ κd ω ωd Q Z e => by
      obtain ⟨⟨n, n1, Bl⟩, -⟩ := Z.1.dec
      refine x_aload_n C dX6_readOut_148 rfl ?_
      refine e_get C Y kd_X6 2 (by decide) wf_X6_26 dX6_readOut_149 Z.x rfl ?_
      refine u_callV (st := []) C Y hW E.cs (l_size hW Bl) md_X4_size wi_X4_size ws_X4_size wm_X6_181 dX6_readOut_152 rfl (by decide) (by decide) Bl rfl rfl (by decide) ?_
      exact x_iret C E dX6_readOut_155 (fun g e2 => fin _ _ _ κ κd ω ωd Q e2 e Z)
    induction r with
    | zero =>
      intro i Q κ κd ω ωd h hi hQ Z eR
      obtain rfl : i = 10 := by omega
      refine x_iload_n C dX6_readOut_52 rfl ?_
      refine x_bipush (v := 10) C dX6_readOut_53 (by decide) ?_
      exact x_icmp_ge (tgt := 148) C dX6_readOut_55 (by decide) (fun _ => T148 _ _ _ _ κ κd ω ωd Q Z (by rw [eR]; rfl)) (fun q => absurd (Int32.le_refl _) q)
    | succ r ih =>
      intro i Q κ κd ω ωd h hi hQ Z eR
      refine x_iload_n C dX6_readOut_52 rfl ?_
      refine x_bipush (v := 10) C dX6_readOut_53 (by decide) ?_
      refine x_icmp_ge (tgt := 148) C dX6_readOut_55 (by decide) (fun q => absurd q (Int32.not_le.mpr (nI_lt (b := 10) (show i < 10 by omega) (by decide)))) (fun _ => ?_)
      refine x_iload_n C dX6_readOut_58 rfl ?_
      refine x_if_eq (tgt := 148) C dX6_readOut_59 (by decide) (fun q => absurd q (by decide)) (fun _ => ?_)
      have T79 : ∀ x : Int32, x = f_roC i → X z' (105 * (r + 1)) (804 * (r + 1)) (EQ h) 79 [some (.ref (a 0)), some (.int (nI j)), some (.int 1), some (.int (nI i))] [.int x, .ref (a 3)] := fun x ex => by
        subst ex
        have hc : f_roC i = 91 ∨ f_roC i = 123 := by unfold f_roC; split <;> simp
        have hcb : byt (f_roC i) := by
          rcases hc with e | e
          · rw [e]; exact ⟨91, by decide, rfl⟩
          · rw [e]; exact ⟨123, by decide, rfl⟩
        refine x_sipush (v := 253) C dX6_readOut_79 (by decide) ?_
        refine k_putS (st := []) hX C Y E.cs (by decide) (by decide) Z hcb dX6_readOut_82 (by decide) (fun g Zg aw => ?_)
        have s6 := putS_6 Z.2.2.1.1 hc
        have hQ1 : MH (f_putS Q (f_roC i)) := hQ.putS hcb
        rw [f_ro] at eR
        generalize f_putS Q (f_roC i) = Q1 at Zg aw s6 eR hQ1
        have B : g (a 3) = _ := Zg.2.2.2.2.1
        obtain ⟨ga, na, Ra, a1, a2⟩ := aw
        by_cases q7 : Q1.i 7 = 1
        · obtain ⟨L0, l1, l2, l3⟩ := s6 q7
          obtain ⟨y1, y2⟩ := a1 q7
          have en : na = L0 := (nI_eq (by have := Ra.2.2.2; omega) (by omega)).mp (y1.symm.trans l3)
          have ov : outV Q1 = nI L0 := by unfold outV; rw [if_pos q7, l3]
          have em : f_m Q1 = na := by unfold f_m; rw [y1, nI_clamp (by omega)]
          rw [if_pos q7, em] at eR
          refine x_if_gt (tgt := 98) C dX6_readOut_85 (by decide) (fun _ => ?_) (fun q => absurd (by rw [ov]; exact nI_lt (a := 0) (show 0 < L0 by omega) (by omega)) q)
          obtain ⟨-, -, ⟨fr, at_, en9, fa, pl, mo, Bd, -⟩, -⟩ := Zg.1.dec
          obtain ⟨rn, gr, x⟩ := Zg.2.2.2.2.2.2.2.x
          obtain ⟨r', tx, lr1, lr2, lr3, lr4⟩ := hQ1.1.mi.2.2
          have er : r' = rn := (nI_eq (by omega) (by have := x.2.2.2.1; omega)).mp (lr1.symm.trans x.2.2.1)
          subst er
          refine x_aload_n C dX6_readOut_98 rfl ?_
          refine e_get C Y kd_X6 3 (by decide) wf_X6_35 dX6_readOut_99 Zg.x rfl ?_
          refine x_aload_n C dX6_readOut_102 rfl ?_
          refine e_get C Y kd_X6 1 (by decide) wf_X6_19 dX6_readOut_103 Zg.x rfl ?_
          refine u_callV (st := [.ref (a 9)]) C Y hW E.cs (u_lastAnswer hX B) md_X0_lastAnswer wi_X0_lastAnswer ws_X0_lastAnswer wm_X6_138 dX6_readOut_106 rfl (by decide) (by decide) B rfl rfl (by simp [Value.category]) ?_
          refine X.room (kc' := 105 * r + Bc (na - 21)) (ks' := 804 * r + Bs (na - 21)) ?_ (by unfold Bc; omega) (by unfold Bs; omega)
          refine k_callR (kc := 105 * r) (ks := 804 * r) (st := []) C Y hW E.cs (d_readsX hX Ra (Zg.1.wd (i := 5) (by omega)) (Zg.1.wd (i := 6) (by omega)) x Zg.1.dec (q0 := 5) (by decide) y2 (da0_byt Zg.2.2.1.2 rfl na) lr3 lr4) rfl md_X1_reads wi_X1_reads ws_X1_reads wm_X6_170 dX6_readOut_109 rfl (by decide) (by decide) Bd rfl rfl (by decide) (fun r4 g4 hg => ?_)
          obtain ⟨κ9, ω9, r9, gr9, x9, D9, hr⟩ := hg
          have hD := hQ1.da (q := 5) rfl na
          have st := da_st (S := Q1) 5 na
          have Z4 : ZI c a h9 V α f κ κ9 ω ω9 (f_da Q1 5 na) g4 := Zg.ofD D9 x9.el ⟨hD.1.mi.2.1, hD.1.mi.1⟩ st.1 st.2
          rcases hr with ⟨rfl, n41, at4, en4, fa4, pl4, Bd4, hmo⟩ | ⟨rfl, p41⟩
          · rw [if_neg (by rw [n41]; decide)] at eR
            refine x_if_ne (tgt := 134) C dX6_readOut_112 (by decide) (fun _ => ?_) (fun q => absurd q (by decide))
            refine x_aload_n C dX6_readOut_134 rfl ?_
            refine e_get C Y kd_X6 3 (by decide) wf_X6_35 dX6_readOut_135 Z4.x rfl ?_
            refine u_callV (st := []) C Y hW E.cs (d_more hW hmo Bd4) md_X1_endsByMore wi_X1_endsByMore ws_X1_endsByMore wm_X6_177 dX6_readOut_138 rfl (by decide) (by decide) Bd4 rfl rfl (by decide) ?_
            refine o_istore_nE (L' := [some _, some _, some _, some _]) C dX6_readOut_141 (by rw [hn]; decide) rfl ?_
            refine o_iincE (v := nI (i + 1)) (L' := [some _, some _, some _, some _]) C dX6_readOut_142 rfl (nI_1 i) (by rw [hn]; decide) rfl ?_
            refine x_goto (tgt := 52) C dX6_readOut_145 (by decide) ?_
            rcases hmo with e0 | e1
            · rw [if_pos e0] at eR
              rw [e0]
              refine x_iload_n C dX6_readOut_52 rfl ?_
              refine x_bipush (v := 10) C dX6_readOut_53 (by decide) ?_
              refine x_icmp_ge (tgt := 148) C dX6_readOut_55 (by decide) (fun _ => T148 _ _ _ _ κ κ9 ω ω9 _ Z4 (by rw [eR])) (fun _ => ?_)
              refine x_iload_n C dX6_readOut_58 rfl ?_
              exact x_if_eq (tgt := 148) C dX6_readOut_59 (by decide) (fun _ => T148 _ _ _ _ κ κ9 ω ω9 _ Z4 (by rw [eR])) (fun q => absurd rfl q)
            · rw [if_neg (by rw [e1]; decide)] at eR
              rw [e1]
              exact ih (i + 1) _ κ κ9 ω ω9 g4 (by omega) hD Z4 eR
          · rw [if_pos p41] at eR
            refine x_if_ne (tgt := 134) C dX6_readOut_112 (by decide) (fun q => absurd rfl q) (fun _ => ?_)
            refine x_aload_n C dX6_readOut_115 rfl ?_
            refine e_get C Y kd_X6 2 (by decide) wf_X6_26 dX6_readOut_116 Z4.x rfl ?_
            refine x_iconst (v := 0) C dX6_readOut_119 (by decide) ?_
            refine k_nil (st := []) hX C Y E.cs (by decide) Z4 dX6_readOut_120 (by decide) (fun g5 Z5 => ?_)
            obtain ⟨-, -, ⟨fr, at_, en, fa, pl, mo, Bd, hmo⟩, -⟩ := Z5.1.dec
            refine x_bipush (v := (-2)) C dX6_readOut_123 (by decide) ?_
            refine x_aload_n C dX6_readOut_125 rfl ?_
            refine e_get C Y kd_X6 3 (by decide) wf_X6_35 dX6_readOut_126 Z5.x rfl ?_
            refine u_callV (st := [.int (-2)]) C Y hW E.cs (d_faultOf hW rfl Bd) md_X1_lastFault wi_X1_lastFault ws_X1_lastFault wm_X6_174 dX6_readOut_129 rfl (by decide) (by decide) Bd rfl rfl (by simp [Value.category]) ?_
            refine x_isub C dX6_readOut_132 ?_
            exact x_iret C E dX6_readOut_133 (fun g e => fin _ _ _ κ κ9 ω ω9 _ e (by rw [eR]) Z5)
        · rw [if_neg q7] at eR
          have ov : outV Q1 ≤ 0 := by
            unfold outV
            rw [if_neg q7]
            split <;> decide
          refine x_if_gt (tgt := 98) C dX6_readOut_85 (by decide) (fun q => absurd ov (Int32.not_le.mpr q)) (fun _ => ?_)
          refine x_aload_n C dX6_readOut_88 rfl ?_
          refine e_get C Y kd_X6 2 (by decide) wf_X6_26 dX6_readOut_89 Zg.x rfl ?_
          refine x_iconst (v := 0) C dX6_readOut_92 (by decide) ?_
          refine k_nil (st := []) hX C Y E.cs (by decide) Zg dX6_readOut_93 (by decide) (fun g5 Z5 => ?_)
          refine x_iconst (v := -1) C dX6_readOut_96 (by decide) ?_
          exact x_iret C E dX6_readOut_97 (fun g e => fin _ _ _ κ κd ω ωd _ e (by rw [eR]) Z5)
      have par : nI i - nI i / 2 * 2 = 0 ↔ i % 2 = 0 := by
        have key : ∀ i, i < 10 → (nI i - nI i / 2 * 2 = 0 ↔ i % 2 = 0) := by decide +kernel
        exact key i (by omega)
      refine x_aload_n C dX6_readOut_62 rfl ?_
      refine e_get C Y kd_X6 1 (by decide) wf_X6_19 dX6_readOut_63 Z.x rfl ?_
      refine x_iload_n C dX6_readOut_66 rfl ?_
      refine x_iconst (v := 2) C dX6_readOut_67 (by decide) ?_
      refine x_irem C dX6_readOut_68 (by decide) ?_
      refine x_if_ne (tgt := 77) C dX6_readOut_69 (by decide) (fun q => ?_) (fun q => ?_)
      · exact x_bipush (v := 91) C dX6_readOut_77 (by decide) (T79 _ (by unfold f_roC; rw [if_neg (fun y => q (par.mpr y))]))
      · refine x_bipush (v := 123) C dX6_readOut_72 (by decide) ?_
        exact x_goto (tgt := 79) C dX6_readOut_74 (by decide) (T79 _ (by unfold f_roC; rw [if_pos (par.mp q)]))
  rcases hg with ⟨rfl, q7, Z3⟩ | ⟨rfl, q7, Z3⟩
  · refine x_if_ne (tgt := 48) C dX6_readOut_43 (by decide) (fun _ => ?_) (fun q => absurd q (by decide))
    refine x_iconst (v := 1) C dX6_readOut_48 (by decide) ?_
    refine o_istore_nE (L' := [some _, some _, some _, none]) C dX6_readOut_49 (by rw [hn]; decide) rfl ?_
    refine x_iconst (v := 0) C dX6_readOut_50 (by decide) ?_
    refine o_istore_nE (L' := [some _, some _, some _, some _]) C dX6_readOut_51 (by rw [hn]; decide) rfl ?_
    exact LP 10 0 _ κ κd ω ωd g3 rfl ((hS3.putS ⟨64, by decide, rfl⟩).putM) Z3 (eRO q7)
  · refine x_if_ne (tgt := 48) C dX6_readOut_43 (by decide) (fun q => absurd rfl q) (fun _ => ?_)
    refine x_iconst (v := -1) C dX6_readOut_46 (by decide) ?_
    exact x_iret C E dX6_readOut_47 (fun g e => fin _ _ _ κ κd ω ωd _ e (by rw [eRN q7]) Z3)
end Calls
end
section
/-! MeterBus against the model: found, record, text, count. -/
section Tell
variable {w : Wd} {c : Nat → ClassId} {a : Nat → Nat} {h h0 : PH} {p r v : Nat} {W : Nat → Prop} {κ ω : Nat → Nat} {S : MS} {gr : Nat → Option Nat} {va sg : Int64} {co fu ta un ln : Int32} {lt : Value}
theorem l_atX (hX : Wx w c) (XE : ELx c a κ ω S h r gr) (x : Int32) : T w gw yX4_at cX4_at 2 (some (.object "MeterBus$Reading")) 0 (40 * 0) 0 0 [.ref (a 7), .int x] (EQ h) (fun q g => g = h ∧ ((q = some .null ∧ ¬ q_rec S x) ∨ ∃ p j, q = some (.ref p) ∧ x = nI j ∧ j < r ∧ gr j = some p ∧ REx c h S j p)) := by
  obtain ⟨x0, n2, x2, x3, g1, x5, x6, x7⟩ := XE
  have qi : q_rec S x ↔ ∃ j, j < r ∧ x = nI j := by
    unfold q_rec
    rw [x2]
    constructor
    · intro y
      obtain ⟨j, hj, rfl⟩ := nI_of (Int32.not_lt.mpr y.1)
      by_cases q : r = 0
      · subst q
        exact absurd (Int32.le_trans y.1 y.2) (by decide)
      · have y2 := y.2
        rw [show nI r - 1 = nI (r - 1) from nI_sub' (v := r) (b := 1) (by omega)] at y2
        have := (nI_leI hj (by omega)).mp y2
        exact ⟨j, by omega, rfl⟩
    · rintro ⟨j, hj, rfl⟩
      refine ⟨nI_le (a := 0) (by omega) (by omega), ?_⟩
      rw [show nI r - 1 = nI (r - 1) from nI_sub' (v := r) (b := 1) (by omega)]
      exact nI_le (by omega) (by omega)
  refine TA.intro hX.1 rfl (by decide +kernel) (Nat.le_of_ble_eq_true rfl) (fun z C Y E hn h1 hA => ?_)
  rw [show h1 = h from hA]
  clear hA
  obtain ⟨t, ht⟩ := hX.tR E.cs
  have T30 : ¬ q_rec S x → X z 0 0 (EQ h) 30 [some (.ref (a 7)), some (.int x)] [] := fun nq => by
    refine x_null C dX4_at_30 ?_
    exact x_aret C E (Or.inl ⟨_, rfl⟩) dX4_at_31 (Or.inl rfl) (fun q e => ⟨e, Or.inl ⟨rfl, nq⟩⟩)
  refine x_iload_n C dX4_at_0 rfl ?_
  refine x_if_lt (tgt := 30) C dX4_at_1 (by decide) (fun q => T30 (fun y => absurd q (Int32.not_lt.mpr y.1))) (fun c1 => ?_)
  obtain ⟨j, hj, rfl⟩ := nI_of c1
  refine x_iload_n C dX4_at_4 rfl ?_
  refine x_aload_n C dX4_at_5 rfl ?_
  refine e_get C Y kd_X4 1 (by decide) wf_X4_17 dX4_at_6 n2 rfl ?_
  refine x_icmp_ge (tgt := 30) C dX4_at_9 (by decide) (fun q => T30 (fun y => by obtain ⟨j2, h2, e2⟩ := qi.mp y; rw [e2] at q; exact absurd (nI_lt h2 (by omega)) (Int32.not_lt.mpr q))) (fun c9 => ?_)
  have hjr : j < r := (nI_ltI hj (by omega)).mp (Int32.not_le.mp c9)
  refine x_iload_n C dX4_at_12 rfl ?_
  refine x_aload_n C dX4_at_13 rfl ?_
  refine e_get C Y kd_X4 0 (by decide) wf_X4_11 dX4_at_14 n2 rfl ?_
  refine x_alen C ht dX4_at_17 (v := nI 101) (fun q e => by rw [e]; exact g1) rfl ?_
  refine x_icmp_ge (tgt := 30) C dX4_at_18 (by decide) (fun q => absurd (nI_lt (b := 101) (show j < 101 by omega) (by decide)) (Int32.not_lt.mpr q)) (fun c17 => ?_)
  have hj2 : j < 101 := by omega
  refine x_aload_n C dX4_at_21 rfl ?_
  refine e_get C Y kd_X4 0 (by decide) wf_X4_11 dX4_at_22 n2 rfl ?_
  refine x_iload_n C dX4_at_25 rfl ?_
  refine x_aald C ht dX4_at_26 (fun q e => by rw [e]; exact g1) (vp_in_nI hj2 (by decide)) ?_
  refine x_goto (tgt := 31) C dX4_at_27 (by decide) ?_
  rw [nI_clamp hj]
  obtain ⟨p, p1, p2⟩ := x6 j hjr
  rw [p1]
  exact x_aret C E (Or.inl ⟨_, rfl⟩) dX4_at_31 (Or.inr ⟨_, rfl⟩) (fun q e9 => ⟨e9, Or.inr ⟨p, j, rfl, rfl, hjr, p1, p2⟩⟩)
theorem q_textAtX (hX : Wx w c) {vn : Int32} {t m j : Nat} {fl : Nat → Int32} (B : h p = some (.inr (3, rdL va co fu sg ta un v vn (.ref t) ln))) (m2 : h t = some (.inl (c 0, m, .inl fl))) (m1 : m ≤ 300) (hj2 : j < m) : T w gw yX3_textAt cX3_textAt 2 (some .int) 0 (40 * 0) 0 0 [.ref p, .int (nI j)] (EQ h) (fun r g => g = h ∧ r = some (.int (fl j))) := by
  refine TA.intro hX.1 rfl (by decide +kernel) (Nat.le_of_ble_eq_true rfl) (fun z C Y E hn h1 hA => ?_)
  rw [show h1 = h from hA]
  clear hA
  obtain ⟨t0, ht0⟩ := Y.2.1
  refine x_aload_n C dX3_textAt_0 rfl ?_
  refine e_get C Y kd_X3 8 (by decide) wf_X3_38 dX3_textAt_1 B rfl ?_
  refine x_ifnull C dX3_textAt_4 ?_
  refine x_iload_n C dX3_textAt_7 rfl ?_
  refine x_if_lt (tgt := 29) C dX3_textAt_8 (by decide) (fun q => absurd q (nI_pos (by omega))) (fun c8 => ?_)
  refine x_iload_n C dX3_textAt_11 rfl ?_
  refine x_aload_n C dX3_textAt_12 rfl ?_
  refine e_get C Y kd_X3 8 (by decide) wf_X3_38 dX3_textAt_13 B rfl ?_
  refine x_alen C ht0 dX3_textAt_16 (v := nI m) (fun q e => by rw [e]; exact m2) rfl ?_
  refine x_icmp_ge (tgt := 29) C dX3_textAt_17 (by decide) (fun q => absurd (nI_lt hj2 (by omega)) (Int32.not_lt.mpr q)) (fun c17 => ?_)
  refine x_aload_n C dX3_textAt_20 rfl ?_
  refine e_get C Y kd_X3 8 (by decide) wf_X3_38 dX3_textAt_21 B rfl ?_
  refine x_iload_n C dX3_textAt_24 rfl ?_
  refine e_ild C Y dX3_textAt_25 m2 (vp_in_nI hj2 (by omega)) ?_
  rw [nI_clamp (by omega)]
  refine x_goto (tgt := 30) C dX3_textAt_26 (by decide) ?_
  exact x_iret C E dX3_textAt_30 (fun q e => ⟨e, rfl⟩)
def dtl (va : Int64) (co fu : Int32) (sg : Int64) (ta un vn : Int32) (fv : Nat → Int32) (x : Nat) : Int64 := if x = 0 then va else if x = 1 then co.toInt64 else if x = 2 then fu.toInt64 else if x = 3 then sg else if x = 4 then ta.toInt64 else if x = 5 then un.toInt64 else if x = 6 then vn.toInt64 else (fv (x - 7)).toInt64
theorem rec_dtl {j t vn : Nat} {fv : Nat → Int32} (hv : ∀ i, i < (S.a 30 j).toNatClampNeg → fv i = S.a 31 (11 * j + i)) (evn : S.a 30 j = nI vn) (vn2 : vn ≤ 11) (t18 : t < 7 + vn) : f_record S j t = dtl (S.w 24 j) (S.a 25 j) (S.a 26 j) (S.w 27 j) (S.a 28 j) (S.a 29 j) (S.a 30 j) fv t := by
  have e7 : 7 ≤ t → (S.a 31 (11 * j + t - 7)).toInt64 = (fv (t - 7)).toInt64 := fun h7 => by rw [hv (t - 7) (by rw [evn, nI_clamp (by omega)]; omega), show 11 * j + t - 7 = 11 * j + (t - 7) by omega]
  unfold f_record dtl
  split
  · rfl
  split
  · rfl
  split
  · rfl
  split
  · rfl
  split
  · rfl
  split
  · rfl
  split
  · rfl
  exact e7 (by omega)
theorem q_detailX (hX : Wx w c) {vn : Int32} {fv : Nat → Int32} (B : h p = some (.inr (3, rdL va co fu sg ta un v vn lt ln))) (m2 : h v = some (.inl (c 0, 11, .inl fv))) {x : Nat} (hx : x < 18) : T w gw yX3_detail cX3_detail 2 (some .long) 0 (40 * 0) 0 0 [.ref p, .int (nI x)] (EQ h) (fun r g => g = h ∧ r = some (.long (dtl va co fu sg ta un vn fv x))) := by
  refine TA.intro hX.1 rfl (by decide +kernel) (Nat.le_of_ble_eq_true rfl) (fun z C Y E hn h1 hA => ?_)
  rw [show h1 = h from hA]
  clear hA
  obtain ⟨t0, ht0⟩ := Y.2.1
  refine x_iload_n C dX3_detail_0 rfl ?_
  by_cases hj7 : 7 ≤ x
  · refine x_tblOut (tgt := 84) C dX3_detail_1 (Or.inr (by have : (6 : Int32) < nI x := nI_lt (a := 6) (by omega) (by omega); exact Int32.lt_iff_toInt_lt.mp this)) (by decide) ?_
    refine x_iload_n C dX3_detail_84 rfl ?_
    refine x_bipush (v := 7) C dX3_detail_85 (by decide) ?_
    refine x_icmp_lt (tgt := 115) C dX3_detail_87 (by decide) (fun q => absurd (nI_le (a := 7) hj7 (by omega)) (Int32.not_le.mpr q)) (fun c7 => ?_)
    refine x_iload_n C dX3_detail_90 rfl ?_
    refine x_bipush (v := 7) C dX3_detail_91 (by decide) ?_
    refine x_isub C dX3_detail_93 ?_
    rw [show nI x - 7 = nI (x - 7) from nI_sub' hj7]
    refine x_aload_n C dX3_detail_94 rfl ?_
    refine e_get C Y kd_X3 6 (by decide) wf_X3_31 dX3_detail_95 B rfl ?_
    refine x_alen C ht0 dX3_detail_98 (v := nI 11) (fun q e => by rw [e]; exact m2) rfl ?_
    refine x_icmp_ge (tgt := 115) C dX3_detail_99 (by decide) (fun q => absurd (nI_lt (b := 11) (show x - 7 < 11 by omega) (by decide)) (Int32.not_lt.mpr q)) (fun c17 => ?_)
    have hj2 : x - 7 < 11 := by omega
    refine x_aload_n C dX3_detail_102 rfl ?_
    refine e_get C Y kd_X3 6 (by decide) wf_X3_31 dX3_detail_103 B rfl ?_
    refine x_iload_n C dX3_detail_106 rfl ?_
    refine x_bipush (v := 7) C dX3_detail_107 (by decide) ?_
    refine x_isub C dX3_detail_109 ?_
    rw [show nI x - 7 = nI (x - 7) from nI_sub' hj7]
    refine e_ild C Y dX3_detail_110 m2 (vp_in_nI hj2 (by decide)) ?_
    rw [nI_clamp (by omega)]
    refine x_i2l C dX3_detail_111 ?_
    refine x_goto (tgt := 118) C dX3_detail_112 (by decide) ?_
    exact x_lret C E dX3_detail_118 (fun q e => ⟨e, by unfold dtl; rw [if_neg (by omega), if_neg (by omega), if_neg (by omega), if_neg (by omega), if_neg (by omega), if_neg (by omega), if_neg (by omega)]⟩)
  rcases (show x = 0 ∨ x = 1 ∨ x = 2 ∨ x = 3 ∨ x = 4 ∨ x = 5 ∨ x = 6 by omega) with rfl | rfl | rfl | rfl | rfl | rfl | rfl
  · refine x_tblIn (tgt := 44) (off := 43) C dX3_detail_1 (by decide) (by decide) (by decide) (by decide) ?_
    refine x_aload_n C dX3_detail_44 rfl ?_
    refine e_get C Y kd_X3 0 (by decide) wf_X3_9 dX3_detail_45 B rfl ?_
    exact x_lret C E dX3_detail_48 (fun q e => ⟨e, rfl⟩)
  · refine x_tblIn (tgt := 49) (off := 48) C dX3_detail_1 (by decide) (by decide) (by decide) (by decide) ?_
    refine x_aload_n C dX3_detail_49 rfl ?_
    refine e_get C Y kd_X3 1 (by decide) wf_X3_15 dX3_detail_50 B rfl ?_
    refine x_i2l C dX3_detail_53 ?_
    exact x_lret C E dX3_detail_54 (fun q e => ⟨e, rfl⟩)
  · refine x_tblIn (tgt := 55) (off := 54) C dX3_detail_1 (by decide) (by decide) (by decide) (by decide) ?_
    refine x_aload_n C dX3_detail_55 rfl ?_
    refine e_get C Y kd_X3 2 (by decide) wf_X3_19 dX3_detail_56 B rfl ?_
    refine x_i2l C dX3_detail_59 ?_
    exact x_lret C E dX3_detail_60 (fun q e => ⟨e, rfl⟩)
  · refine x_tblIn (tgt := 61) (off := 60) C dX3_detail_1 (by decide) (by decide) (by decide) (by decide) ?_
    refine x_aload_n C dX3_detail_61 rfl ?_
    refine e_get C Y kd_X3 3 (by decide) wf_X3_22 dX3_detail_62 B rfl ?_
    exact x_lret C E dX3_detail_65 (fun q e => ⟨e, rfl⟩)
  · refine x_tblIn (tgt := 66) (off := 65) C dX3_detail_1 (by decide) (by decide) (by decide) (by decide) ?_
    refine x_aload_n C dX3_detail_66 rfl ?_
    refine e_get C Y kd_X3 4 (by decide) wf_X3_25 dX3_detail_67 B rfl ?_
    refine x_i2l C dX3_detail_70 ?_
    exact x_lret C E dX3_detail_71 (fun q e => ⟨e, rfl⟩)
  · refine x_tblIn (tgt := 72) (off := 71) C dX3_detail_1 (by decide) (by decide) (by decide) (by decide) ?_
    refine x_aload_n C dX3_detail_72 rfl ?_
    refine e_get C Y kd_X3 5 (by decide) wf_X3_28 dX3_detail_73 B rfl ?_
    refine x_i2l C dX3_detail_76 ?_
    exact x_lret C E dX3_detail_77 (fun q e => ⟨e, rfl⟩)
  · refine x_tblIn (tgt := 78) (off := 77) C dX3_detail_1 (by decide) (by decide) (by decide) (by decide) ?_
    refine x_aload_n C dX3_detail_78 rfl ?_
    refine e_get C Y kd_X3 7 (by decide) wf_X3_35 dX3_detail_79 B rfl ?_
    refine x_i2l C dX3_detail_82 ?_
    exact x_lret C E dX3_detail_83 (fun q e => ⟨e, rfl⟩)
end Tell
section Calls
variable {w : Wd} {c : Nat → ClassId} {a : Nat → Nat} {h9 : PH} {V : Nat → Prop} {α : Nat → Int64} {f : Nat → Option Nat} {κ κd ω ωd : Nat → Nat} {S S' : MS} {h g : PH}
theorem zy_found (hX : Wx w c) (hS : MH S) (Z : ZI c a h9 V α f κ κd ω ωd S h) (k i : Int32) : TCX w yX6_found cX6_found 3 (some .int) 1 6 [.ref (a 0), .int k, .int i] h
    (fun r g => ∃ v S', r = some (.int v) ∧ (∀ M, Wm w M → TF w M yX7_found cX7_found 3 (some .int) 1 [.int k, .int i] S (some (.int v)) S') ∧ S'.i 0 = 0 ∧ ZQ c a h9 V S' g) (fun En g => ∃ v S', (∀ M, Wm w M → TF w M yX7_found cX7_found 3 (some .int) 1 [.int k, .int i] S (some (.int v)) S') ∧ (En = IOE ∧ S'.i 0 = 1) ∧ ZQ c a h9 V S' g) := by
  have hW := hX.1
  obtain ⟨fn, gf, Bx, e20, f12, Bf, af⟩ := Z.2.2.2.2.2.2.1
  have mf : ∀ M, Wm w M → _ := fun M hM => s_found (S := S) (M := M) (w := w) hM fn e20 (by omega) k i
  refine TCX.intro hX.1 rfl (by decide +kernel) (Nat.le_of_ble_eq_true rfl) (fun z C Y E hn => ?_)
  have T18 : ¬ q_found S k i → X z 1 6 (EQ h) 18 [some (.ref (a 0)), some (.int k), some (.int i)] [] := fun nf => u_thr (kc := 0) (ks := 0) hX C E exs_IOE at_76 wc_X6_72 wz_IndexOutOfBoundsException (show (154, "no such found one or byte") ∈ txts by simp [txts]) dX6_found_18 dX6_found_21 dX6_found_22 dX6_found_24 dX6_found_27 (by decide) (fun g e => ⟨_, _, fun M hM => mf M hM, ⟨rfl, by rw [MS.si_i, if_pos rfl, bI_t nf]⟩, by rw [show g = h from e]; exact Z.q0 hS _⟩)
  obtain ⟨t1, ht1⟩ := Y.2.2.1
  refine x_aload_n C dX6_found_0 rfl ?_
  refine x_iload_n C dX6_found_1 rfl ?_
  refine k_callR (kc := 1) (ks := 6) (mc' := 0) (ms' := 0) (st := []) C Y hW E.1 (zy_isFound hX Z k) rfl md_X6_isFoundOne wi_X6_isFoundOne ws_X6_isFoundOne wm_X6_151 dX6_found_2 rfl (by decide) (by decide) Bx rfl rfl (by decide) (fun r g hg => ?_)
  obtain ⟨eg, hg⟩ := hg
  rw [eg]
  rcases hg with ⟨rfl, nf⟩ | ⟨rfl, j, fn', hjf, f12', e20', rfl⟩
  · exact x_if_eq (tgt := 18) C dX6_found_5 (by decide) (fun _ => T18 (fun y => nf y.1)) (fun q => absurd rfl q)
  have efn : fn' = fn := (nI_eq (by omega) (by omega)).mp (e20'.symm.trans e20)
  subst efn
  have hj : j < 12 := by omega
  have q1 := (fnd_iff e20 f12).mpr ⟨j, hjf, rfl⟩
  refine x_if_eq (tgt := 18) C dX6_found_5 (by decide) (fun q => absurd q (by decide)) (fun _ => ?_)
  refine x_iload_n C dX6_found_8 rfl ?_
  refine x_if_lt (tgt := 18) C dX6_found_9 (by decide) (fun q => T18 (fun y => absurd q (Int32.not_lt.mpr y.2.1))) (fun c9 => ?_)
  obtain ⟨t, ht, rfl⟩ := nI_of c9
  refine x_iload_n C dX6_found_12 rfl ?_
  refine x_bipush (v := 8) C dX6_found_13 (by decide) ?_
  refine x_icmp_lt (tgt := 28) C dX6_found_15 (by decide) (fun c15 => ?_) (fun q => T18 (fun y => q (by have := (nI_leI ht (b := 7) (by decide)).mp y.2.2; exact nI_lt (b := 8) (by omega) (by decide))))
  have t8 : t < 8 := (nI_ltI ht (b := 8) (by decide)).mp c15
  refine x_aload_n C dX6_found_28 rfl ?_
  refine e_get C Y kd_X6 4 (by decide) wf_X6_39 dX6_found_29 Bx rfl ?_
  refine x_iload_n C dX6_found_32 rfl ?_
  refine x_lald C ht1 dX6_found_33 (fun q e => by rw [e]; exact Bf) (vp_in_nI hj (by decide)) ?_
  rw [nI_clamp (show j < 2 ^ 31 by omega)]
  refine x_bipush (v := 8) C dX6_found_34 (by decide) ?_
  refine x_iload_n C dX6_found_36 rfl ?_
  refine x_imul C dX6_found_37 ?_
  refine x_lushr C dX6_found_38 ?_
  refine x_l2i C dX6_found_39 ?_
  refine x_sipush (v := 255) C dX6_found_40 (by decide) ?_
  refine x_iand C dX6_found_43 ?_
  have qf : q_found S (nI j) (nI t) := ⟨q1, nI_le (a := 0) (by omega) (by omega), nI_le (b := 7) (by omega) (by decide)⟩
  refine E.go C Y (fun z' C Y E hn => x_iret C E dX6_found_44 (fun g e => ⟨_, S.si 0 (bI (¬ q_found S (nI j) (nI t))), rfl, fun M hM => ?_, ?_, by rw [show g = h from e]; exact Z.q0 hS (bI (¬ q_found S (nI j) (nI t)))⟩))
  · have := mf M hM
    have ea : by8 (gf j) t &&& 255 = S.a 21 (8 * j + t) := af j hjf t t8
    rw [if_pos qf, nI_clamp (by omega), nI_clamp (by omega), ← ea] at this
    exact this
  · rw [MS.si_i, if_pos rfl, bI_f (fun y => y qf)]
theorem zy_record (hX : Wx w c) (hS : MH S) (Z : ZI c a h9 V α f κ κd ω ωd S h) (k i : Int32) : TCX w yX6_record cX6_record 4 (some .long) 1 6 [.ref (a 0), .int k, .int i] h
    (fun r g => ∃ v S', r = some (.long v) ∧ (∀ M, Wm w M → TF w M yX7_record cX7_record 4 (some .long) 1 [.int k, .int i] S (some (.long v)) S') ∧ S'.i 0 = 0 ∧ ZQ c a h9 V S' g) (fun En g => ∃ v S', (∀ M, Wm w M → TF w M yX7_record cX7_record 4 (some .long) 1 [.int k, .int i] S (some (.long v)) S') ∧ (En = IOE ∧ S'.i 0 = 1) ∧ ZQ c a h9 V S' g) := by
  have hW := hX.1
  have Bx := Z.x
  obtain ⟨rn, gr, x⟩ := Z.2.2.2.2.2.2.2.x
  have Bl := x.2.1
  have s23 := x.2.2.1
  have r100 := x.2.2.2.1
  refine TCX.intro hX.1 rfl (by decide +kernel) (Nat.le_of_ble_eq_true rfl) (fun z C Y E hn => ?_)
  have T28 : ∀ l : Option Value, ¬ q_record S k i → X z 1 6 (EQ h) 28 [some (.ref (a 0)), some (.int k), some (.int i), l] [] := fun l nf => u_thr (kc := 0) (ks := 0) hX C E exs_IOE at_76 wc_X6_72 wz_IndexOutOfBoundsException (show (193, "no such record or what") ∈ txts by simp [txts]) dX6_record_28 dX6_record_31 dX6_record_32 dX6_record_34 dX6_record_37 (by decide) (fun g e => ⟨0, _, fun M hM => s_record_x hM rn s23 r100 k i nf, ⟨rfl, by rw [MS.si_i, if_pos rfl]⟩, by rw [show g = h from e]; exact Z.q0 hS 1⟩)
  refine x_aload_n C dX6_record_0 rfl ?_
  refine e_get C Y kd_X6 2 (by decide) wf_X6_26 dX6_record_1 Bx rfl ?_
  refine x_iload_n C dX6_record_4 rfl ?_
  refine k_callR (kc := 1) (ks := 6) (mc' := 0) (ms' := 0) (st := []) C Y hW E.1 (l_atX hX x k) rfl md_X4_at wi_X4_at ws_X4_at wm_X6_185 dX6_record_5 rfl (by decide) (by decide) Bl rfl rfl (by decide) (fun r g hg => ?_)
  obtain ⟨eg, hg⟩ := hg
  rw [eg]
  rcases hg with ⟨rfl, nq⟩ | ⟨p, j, rfl, rfl, hjr, hgr, R⟩
  · refine o_astore_nN (L' := [some _, some _, some _, some _]) C dX6_record_8 (by rw [hn]; decide) rfl ?_
    refine x_aload_nN C dX6_record_9 rfl ?_
    exact x_ifnullN (tgt := 28) C dX6_record_10 (by decide) (T28 _ (fun y => nq y.1))
  have kp := x.kp Z.1.dec hgr
  have v11 := R.vle Z.1.dec kp
  obtain ⟨v, lt, fv, B, Bv, hv, -⟩ := R
  have q1 : q_rec S (nI j) := by
    unfold q_rec
    rw [s23, show nI rn - 1 = nI (rn - 1) from nI_sub' (v := rn) (b := 1) (by omega)]
    exact ⟨nI_le (a := 0) (by omega) (by omega), nI_le (by omega) (by omega)⟩
  have ecl : (nI j).toNatClampNeg = j := nI_clamp (by omega)
  obtain ⟨vn, vn2, evn⟩ : ∃ vn, vn ≤ 11 ∧ S.a 30 j = nI vn := by
    obtain ⟨e0, e1, va, sg, co, fu, ta, un, ln, v', vn, lt', e2, -, e4, -⟩ := Z.1.dec.rd kp
    rw [e2] at e1
    exact ⟨vn, e4, rd_vn B e1⟩
  refine o_astore_nE (L' := [some _, some _, some _, some _]) C dX6_record_8 (by rw [hn]; decide) rfl ?_
  refine x_aload_n C dX6_record_9 rfl ?_
  refine x_ifnull C dX6_record_10 ?_
  refine x_iload_n C dX6_record_13 rfl ?_
  refine x_if_lt (tgt := 28) C dX6_record_14 (by decide) (fun q => T28 _ (fun y => y.2.1 q)) (fun c14 => ?_)
  obtain ⟨t, ht, rfl⟩ := nI_of c14
  refine x_iload_n C dX6_record_17 rfl ?_
  refine x_bipush (v := 7) C dX6_record_18 (by decide) ?_
  refine x_aload_n C dX6_record_20 rfl ?_
  refine u_callV (st := [.int 7, .int (nI t)]) C Y hW E.1 (q_vifNumber hW B) md_X3_vifNumber wi_X3_vifNumber ws_X3_vifNumber wm_X6_188 dX6_record_21 rfl (by decide) (by decide) B rfl rfl (by simp [Value.category]) ?_
  refine x_iadd C dX6_record_24 ?_
  refine x_icmp_lt (tgt := 38) C dX6_record_25 (by decide) (fun c25 => ?_) (fun q => T28 _ (fun y => q (by have y3 := y.2.2; rw [ecl] at y3; exact y3)))
  rw [evn, show (7 : Int32) + nI vn = nI (7 + vn) from nI_add 7 vn] at c25
  have t18 : t < 7 + vn := (nI_ltI ht (by omega)).mp c25
  refine x_aload_n C dX6_record_38 rfl ?_
  refine x_iload_n C dX6_record_39 rfl ?_
  refine k_callR (kc := 1) (ks := 6) (mc' := 0) (ms' := 0) (st := []) C Y hW E.1 (q_detailX hX B Bv (x := t) (by omega)) rfl md_X3_detail wi_X3_detail ws_X3_detail wm_X6_195 dX6_record_40 rfl (by decide) (by decide) B rfl rfl (by decide) (fun r g2 hg => ?_)
  obtain ⟨eg2, rfl⟩ := hg
  rw [eg2]
  exact E.go C Y (fun z' C Y E hn => x_lret C E dX6_record_43 (fun g e => ⟨_, S.si 0 0, rfl, fun M hM => by
    have := s_record_t (S := S) hM rn j t vn s23 r100 hjr evn vn2 t18
    rw [rec_dtl hv evn vn2 t18] at this
    exact this, by rw [MS.si_i, if_pos rfl], by rw [show g = h from e]; exact Z.q0 hS 0⟩))
theorem zy_text (hX : Wx w c) (hS : MH S) (Z : ZI c a h9 V α f κ κd ω ωd S h) (k i : Int32) : TCX w yX6_text cX6_text 4 (some .int) 1 6 [.ref (a 0), .int k, .int i] h
    (fun r g => ∃ v S', r = some (.int v) ∧ (∀ M, Wm w M → TF w M yX7_text cX7_text 4 (some .int) 1 [.int k, .int i] S (some (.int v)) S') ∧ S'.i 0 = 0 ∧ ZQ c a h9 V S' g) (fun En g => ∃ v S', (∀ M, Wm w M → TF w M yX7_text cX7_text 4 (some .int) 1 [.int k, .int i] S (some (.int v)) S') ∧ (En = IOE ∧ S'.i 0 = 1) ∧ ZQ c a h9 V S' g) := by
  have hW := hX.1
  have Bx := Z.x
  obtain ⟨rn, gr, x⟩ := Z.2.2.2.2.2.2.2.x
  have Bl := x.2.1
  have s23 := x.2.2.1
  have r100 := x.2.2.2.1
  refine TCX.intro hX.1 rfl (by decide +kernel) (Nat.le_of_ble_eq_true rfl) (fun z C Y E hn => ?_)
  have T25 : ∀ l : Option Value, ¬ q_text S k i → X z 1 6 (EQ h) 25 [some (.ref (a 0)), some (.int k), some (.int i), l] [] := fun l nf => u_thr (kc := 0) (ks := 0) hX C E exs_IOE at_76 wc_X6_72 wz_IndexOutOfBoundsException (show (201, "no such record or byte of a text") ∈ txts by simp [txts]) dX6_text_25 dX6_text_28 dX6_text_29 dX6_text_31 dX6_text_34 (by decide) (fun g e => ⟨0, _, fun M hM => s_text_x hM rn s23 r100 k i nf, ⟨rfl, by rw [MS.si_i, if_pos rfl]⟩, by rw [show g = h from e]; exact Z.q0 hS 1⟩)
  refine x_aload_n C dX6_text_0 rfl ?_
  refine e_get C Y kd_X6 2 (by decide) wf_X6_26 dX6_text_1 Bx rfl ?_
  refine x_iload_n C dX6_text_4 rfl ?_
  refine k_callR (kc := 1) (ks := 6) (mc' := 0) (ms' := 0) (st := []) C Y hW E.1 (l_atX hX x k) rfl md_X4_at wi_X4_at ws_X4_at wm_X6_185 dX6_text_5 rfl (by decide) (by decide) Bl rfl rfl (by decide) (fun r g hg => ?_)
  obtain ⟨eg, hg⟩ := hg
  rw [eg]
  rcases hg with ⟨rfl, nq⟩ | ⟨p, j, rfl, rfl, hjr, hgr, R⟩
  · refine o_astore_nN (L' := [some _, some _, some _, some _]) C dX6_text_8 (by rw [hn]; decide) rfl ?_
    refine x_aload_nN C dX6_text_9 rfl ?_
    exact x_ifnullN (tgt := 25) C dX6_text_10 (by decide) (T25 _ (fun y => nq y.1))
  have kp := x.kp Z.1.dec hgr
  obtain ⟨v, lt, fv, B, Bv, hv, hl⟩ := R
  have ecl : (nI j).toNatClampNeg = j := nI_clamp (by omega)
  obtain ⟨rq, rq1, rq2, RQ⟩ := hS.2.1
  have erq : rq = rn := (nI_eq (by omega) (by omega)).mp (rq1.symm.trans s23)
  subst erq
  obtain ⟨-, n, en, n3, ho⟩ := RQ j hjr
  refine o_astore_nE (L' := [some _, some _, some _, some _]) C dX6_text_8 (by rw [hn]; decide) rfl ?_
  refine x_aload_n C dX6_text_9 rfl ?_
  refine x_ifnull C dX6_text_10 ?_
  refine x_iload_n C dX6_text_13 rfl ?_
  refine x_if_lt (tgt := 25) C dX6_text_14 (by decide) (fun q => T25 _ (fun y => absurd q (Int32.not_lt.mpr y.2.1))) (fun c14 => ?_)
  obtain ⟨t, ht, rfl⟩ := nI_of c14
  refine x_iload_n C dX6_text_17 rfl ?_
  refine x_aload_n C dX6_text_18 rfl ?_
  refine u_callV (st := [.int (nI t)]) C Y hW E.1 (q_textSize hW B) md_X3_textSize wi_X3_textSize ws_X3_textSize wm_X6_198 dX6_text_19 rfl (by decide) (by decide) B rfl rfl (by simp [Value.category]) ?_
  refine x_icmp_lt (tgt := 35) C dX6_text_22 (by decide) (fun c22 => ?_) (fun q => T25 _ (fun y => q (by
    have y3 := y.2.2
    rw [ecl, en] at y3
    by_cases n0 : n = 0
    · subst n0
      exact absurd (Int32.le_trans (nI_le (a := 0) (Nat.zero_le t) ht) y3) (by decide)
    · rw [show nI n - 1 = nI (n - 1) from nI_sub' (v := n) (b := 1) (by omega)] at y3
      have := (nI_leI ht (by omega)).mp y3
      rw [en]
      exact nI_lt (by omega) (by omega))))
  rw [en] at c22
  have tn : t < n := (nI_ltI ht (by omega)).mp c22
  obtain ⟨t9, mm, fl, t1, t2, t3, t4⟩ := hl t (by rw [en, nI_clamp (by omega)]; exact tn)
  obtain ⟨o, o1, o2⟩ := ho (by omega)
  subst t1
  have m300 : mm ≤ 300 := by
    obtain ⟨e0, e1, va, sg, co, fu, ta, un, ln, v', vn, lt', e2, -, -, e5⟩ := Z.1.dec.rd kp
    rw [e2] at e1
    have := (rd_inj B e1).2
    rcases e5 with y | ⟨t', y1, y2⟩
    · rw [y] at this; exact nomatch this
    · have e9 := Value.ref.inj (this.trans y1)
      subst e9
      obtain ⟨m', f', z1, z2⟩ := Z.1.dec.lt y2
      rw [t2] at z2
      simp only [Option.some.injEq, Sum.inl.injEq, Prod.mk.injEq, true_and] at z2
      omega
  refine x_aload_n C dX6_text_35 rfl ?_
  refine x_iload_n C dX6_text_36 rfl ?_
  refine k_callR (kc := 1) (ks := 6) (mc' := 0) (ms' := 0) (st := []) C Y hW E.1 (q_textAtX hX B t2 m300 t3) rfl md_X3_textAt wi_X3_textAt ws_X3_textAt wm_X6_203 dX6_text_37 rfl (by decide) (by decide) B rfl rfl (by decide) (fun r g2 hg => ?_)
  obtain ⟨eg2, rfl⟩ := hg
  rw [eg2]
  exact E.go C Y (fun z' C Y E hn => x_iret C E dX6_text_40 (fun g e => ⟨_, S.si 0 0, rfl, fun M hM => by
    have := s_text_t (S := S) hM rq j t n o s23 r100 hjr en n3 tn o1 o2
    rw [t4, o1, nI_clamp (by omega)]
    exact this, by rw [MS.si_i, if_pos rfl], by rw [show g = h from e]; exact Z.q0 hS 0⟩))
end Calls
end
section
/-! MeterBus against the model: count. -/
section Cnt
variable {w : Wd} {c : Nat → ClassId} {u ma an aa : Nat} {h h0 : PH} {W : Nat → Prop} {α : Nat → Int64} {f : Nat → Option Nat} {κ : Nat → Nat} {S : MS}
theorem cnt_n (K : RK f α S) {k : Nat} (hk : k < 12) (e : f k = none) : S.a 10 k = 0 := by
  rcases K k hk with ⟨-, y⟩ | ⟨p, i, mk, v, d, y, -⟩
  · exact y
  · rw [e] at y; exact nomatch y
theorem cnt_s (K : RK f α S) {k m : Nat} (hk : k < 12) (e : f k = some m) : ¬ S.a 10 k = 0 := by
  rcases K k hk with ⟨y, -⟩ | ⟨p, i, mk, v, d, -, y, -⟩
  · rw [e] at y; exact nomatch y
  · exact y
theorem u_meterNumberX (hX : Wx w c) (D : BX c u ma an aa h0 W α f κ h) (K : RK f α S) : T w gw yX0_meterNumber cX0_meterNumber 3 (some .int) 0 (40 * 0) 0 0 [.ref u] (EQ h) (fun r g => g = h ∧ r = some (.int (f_cnt S 12))) := by
  obtain ⟨fr, co, B⟩ := D.uc
  refine TA.intro hX.1 rfl (by decide +kernel) (Nat.le_of_ble_eq_true rfl) (fun z C Y E hn h1 hA => ?_)
  rw [show h1 = h from hA]
  clear hA
  have LP : ∀ (t k9 : Nat) (v : Int32), k9 + t = 12 → v = f_cnt S k9 → X z 0 0 (EQ h) 4 [some (.ref u), some (.int v), some (.int (nI k9))] [] := by
    intro t
    induction t with
    | zero =>
      intro k9 v hk ev
      obtain rfl : k9 = 12 := by omega
      refine x_iload_n C dX0_meterNumber_4 rfl ?_
      refine x_bipush (v := 12) C dX0_meterNumber_5 (by decide) ?_
      refine x_icmp_ge (tgt := 28) C dX0_meterNumber_7 (by decide) (fun _ => ?_) (fun c7 => absurd (Int32.le_refl _) c7)
      refine x_iload_n C dX0_meterNumber_28 rfl ?_
      exact x_iret C E dX0_meterNumber_29 (fun q e => ⟨e, by rw [ev]⟩)
    | succ t ih =>
      intro k9 v hk ev
      have T22 : ∀ v : Int32, v = f_cnt S (k9 + 1) → X z 0 0 (EQ h) 22 [some (.ref u), some (.int v), some (.int (nI k9))] [] := fun v ev => by
        refine o_iincE (v := nI (k9 + 1)) (L' := [some _, some _, some _]) C dX0_meterNumber_22 rfl (nI_1 k9) (by rw [hn]; decide) rfl ?_
        refine x_goto (tgt := 4) C dX0_meterNumber_25 (by decide) ?_
        exact ih (k9 + 1) v (by omega) ev
      refine x_iload_n C dX0_meterNumber_4 rfl ?_
      refine x_bipush (v := 12) C dX0_meterNumber_5 (by decide) ?_
      refine x_icmp_ge (tgt := 28) C dX0_meterNumber_7 (by decide) (fun c7 => absurd c7 (Int32.not_le.mpr (nI_lt (show k9 < 12 by omega) (by decide)))) (fun c7 => ?_)
      refine x_aload_n C dX0_meterNumber_10 rfl ?_
      refine e_get C Y kd_X0 0 (by decide) wf_X0_11 dX0_meterNumber_11 B rfl ?_
      refine x_iload_n C dX0_meterNumber_14 rfl ?_
      refine k_meter hX C E.cs D (show k9 < 12 by omega) dX0_meterNumber_15 (fun e => ?_) (fun m e hm => ?_)
      · exact x_ifnullN (tgt := 22) C dX0_meterNumber_16 (by decide) (T22 v (by rw [ev, f_cnt, bI_f (fun y => y (cnt_n K (show k9 < 12 by omega) e)), Int32.add_zero]))
      · refine x_ifnull C dX0_meterNumber_16 ?_
        refine o_iincE (L' := [some _, some _, some _]) C dX0_meterNumber_19 rfl rfl (by rw [hn]; decide) rfl ?_
        exact T22 _ (by rw [ev, f_cnt, bI_t (cnt_s K (show k9 < 12 by omega) e)]; rfl)
  refine x_iconst (v := 0) C dX0_meterNumber_0 (by decide) ?_
  refine o_istore_nE (L' := [some _, some _, none]) C dX0_meterNumber_1 (by rw [hn]; decide) rfl ?_
  refine x_iconst (v := 0) C dX0_meterNumber_2 (by decide) ?_
  refine o_istore_nE (L' := [some _, some _, some _]) C dX0_meterNumber_3 (by rw [hn]; decide) rfl ?_
  exact LP 12 0 0 rfl rfl
end Cnt
section Calls
variable {w : Wd} {c : Nat → ClassId} {a : Nat → Nat} {h9 : PH} {V : Nat → Prop} {α : Nat → Int64} {f : Nat → Option Nat} {κ κd ω ωd : Nat → Nat} {S S' : MS} {h g : PH}
theorem zy_count (hX : Wx w c) (hS : MH S) (Z : ZI c a h9 V α f κ κd ω ωd S h) (x : Int32) : TCX w yX6_count cX6_count 2 (some .int) 1 6 [.ref (a 0), .int x] h
    (fun r g => ∃ v S', r = some (.int v) ∧ (∀ M, Wm w M → TF w M yX7_count cX7_count 4 (some .int) 1 [.int x] S (some (.int v)) S') ∧ S'.i 0 = 0 ∧ ZQ c a h9 V S' g) (fun En g => ∃ v S', (∀ M, Wm w M → TF w M yX7_count cX7_count 4 (some .int) 1 [.int x] S (some (.int v)) S') ∧ (En = IOE ∧ S'.i 0 = 1) ∧ ZQ c a h9 V S' g) := by
  have hW := hX.1
  have Bx := Z.x
  have B : h (a 3) = _ := Z.2.2.2.2.1
  obtain ⟨gb, nb, R, e2, hb⟩ := Z.2.2.2.2.2.1
  obtain ⟨rn, gr, xe⟩ := Z.2.2.2.2.2.2.2.x
  have Bl := xe.2.1
  refine TCX.intro hX.1 rfl (by decide +kernel) (Nat.le_of_ble_eq_true rfl) (fun z C Y E hn => ?_)
  refine x_iload_n C dX6_count_0 rfl ?_
  by_cases g0 : (0 : Int32) ≤ x ∧ x ≤ 5
  · obtain ⟨j, hj, rfl⟩ := nI_of (Int32.not_lt.mpr g0.1)
    have hj2 : j ≤ 5 := Nat.le_of_not_lt (fun g => absurd (nI_lt g hj) (Int32.not_lt.mpr g0.2))
    refine E.go C Y (fun z' C Y E hn1 => ?_)
    have fin : ∀ (g : PH), g = h → ∀ v : Int32, v = f_count S (nI j) → ∃ v0 S', some (Value.int v) = some (.int v0) ∧ (∀ M, Wm w M → TF w M yX7_count cX7_count 4 (some .int) 1 [.int (nI j)] S (some (.int v0)) S') ∧ S'.i 0 = 0 ∧ ZQ c a h9 V S' g := fun g e v ev => ⟨v, S.si 0 0, rfl, fun M hM => by rw [ev]; exact s_count_t hM _ g0, by rw [MS.si_i, if_pos rfl], by rw [e]; exact Z.q0 hS 0⟩
    rcases (show j = 0 ∨ j = 1 ∨ j = 2 ∨ j = 3 ∨ j = 4 ∨ j = 5 by omega) with rfl | rfl | rfl | rfl | rfl | rfl
    · refine x_tblIn (tgt := 40) (off := 39) C dX6_count_1 (by decide) (by decide) (by decide) (by decide) ?_
      refine x_aload_n C dX6_count_40 rfl ?_
      refine e_get C Y kd_X6 1 (by decide) wf_X6_19 dX6_count_41 Bx rfl ?_
      refine k_callR (kc := 1) (ks := 6) (mc' := 0) (ms' := 0) (st := []) C Y hW E.cs (u_meterNumberX hX Z.1.bus Z.2.1) rfl md_X0_meterNumber wi_X0_meterNumber ws_X0_meterNumber wm_X6_206 dX6_count_44 rfl (by decide) (by decide) B rfl rfl (by decide) (fun r g hg => ?_)
      obtain ⟨eg, rfl⟩ := hg
      rw [eg]
      exact x_iret C E dX6_count_47 (fun g e => fin g e _ (rfl))
    · refine x_tblIn (tgt := 48) (off := 47) C dX6_count_1 (by decide) (by decide) (by decide) (by decide) ?_
      refine x_aload_n C dX6_count_48 rfl ?_
      refine e_get C Y kd_X6 0 (by decide) wf_X6_10 dX6_count_49 Bx rfl ?_
      refine u_callV (st := []) C Y hW E.cs (r_size hW R) md_X5_size wi_X5_size ws_X5_size wm_X6_54 dX6_count_52 rfl (by decide) (by decide) R.2.1 rfl rfl (by decide) ?_
      exact x_iret C E dX6_count_55 (fun g e => fin g e _ (e2.symm))
    · refine x_tblIn (tgt := 56) (off := 55) C dX6_count_1 (by decide) (by decide) (by decide) (by decide) ?_
      refine x_aload_n C dX6_count_56 rfl ?_
      refine e_get C Y kd_X6 5 (by decide) wf_X6_43 dX6_count_57 Bx rfl ?_
      exact x_iret C E dX6_count_60 (fun g e => fin g e _ (rfl))
    · refine x_tblIn (tgt := 61) (off := 60) C dX6_count_1 (by decide) (by decide) (by decide) (by decide) ?_
      refine x_aload_n C dX6_count_61 rfl ?_
      refine e_get C Y kd_X6 2 (by decide) wf_X6_26 dX6_count_62 Bx rfl ?_
      refine u_callV (st := []) C Y hW E.cs (l_size hW Bl) md_X4_size wi_X4_size ws_X4_size wm_X6_181 dX6_count_65 rfl (by decide) (by decide) Bl rfl rfl (by decide) ?_
      exact x_iret C E dX6_count_68 (fun g e => fin g e _ (xe.2.2.1.symm))
    · refine x_tblIn (tgt := 69) (off := 68) C dX6_count_1 (by decide) (by decide) (by decide) (by decide) ?_
      refine x_aload_n C dX6_count_69 rfl ?_
      refine e_get C Y kd_X6 1 (by decide) wf_X6_19 dX6_count_70 Bx rfl ?_
      refine u_callV (st := []) C Y hW E.cs (u_frameNumber hX B) md_X0_frameNumber wi_X0_frameNumber ws_X0_frameNumber wm_X6_209 dX6_count_73 rfl (by decide) (by decide) B rfl rfl (by decide) ?_
      exact x_iret C E dX6_count_76 (fun g e => fin g e _ (rfl))
    · refine x_tblIn (tgt := 77) (off := 76) C dX6_count_1 (by decide) (by decide) (by decide) (by decide) ?_
      refine x_aload_n C dX6_count_77 rfl ?_
      refine e_get C Y kd_X6 1 (by decide) wf_X6_19 dX6_count_78 Bx rfl ?_
      refine u_callV (st := []) C Y hW E.cs (u_collisionNumber hX B) md_X0_collisionNumber wi_X0_collisionNumber ws_X0_collisionNumber wm_X6_212 dX6_count_81 rfl (by decide) (by decide) B rfl rfl (by decide) ?_
      exact x_iret C E dX6_count_84 (fun g e => fin g e _ (rfl))
  · refine x_tblOut (tgt := 85) C dX6_count_1 (outR g0) (by decide) ?_
    exact u_thr (kc := 0) (ks := 0) hX C E exs_IOE at_76 wc_X6_72 wz_IndexOutOfBoundsException (show (215, "no such what") ∈ txts by simp [txts]) dX6_count_85 dX6_count_88 dX6_count_89 dX6_count_91 dX6_count_94 (by decide) (fun g e => ⟨0, _, fun M hM => s_count_f hM x g0, ⟨rfl, by rw [MS.si_i, if_pos rfl]⟩, by rw [show g = h from e]; exact Z.q0 hS 1⟩)
end Calls
end
