/-! MeterBus against the model: found, readOut. -/
theorem rm_i (S : MS) (k q : Nat) : ∀ n, (f_rm S k n).i q = S.i q
  | 0 => rfl
  | n + 1 => by rw [f_rm, MS.sa_i, rm_i S k q n]
theorem rm_w (S : MS) (k q j : Nat) : ∀ n, (f_rm S k n).w q j = S.w q j
  | 0 => rfl
  | n + 1 => by rw [f_rm, MS.sa_w, rm_w S k q j n]
theorem rm_19 (S : MS) (k : Nat) {b : Nat} : ∀ n, b < n → (f_rm S k n).a 19 b = S.a 21 (8 * k + b)
  | 0, h => absurd h (Nat.not_lt_zero b)
  | n + 1, h => by
    rw [f_rm, MS.sa_a]
    by_cases e : b = n
    · subst e; rw [if_pos ⟨rfl, rfl⟩]
    · rw [if_neg (fun y => e y.2), rm_19 S k n (by omega)]
theorem ro_0 {t q : Nat} : ∀ {S : MS}, (f_ro t q S).2.i 0 = S.i 0 := by
  induction t generalizing q with
  | zero => intro S; rfl
  | succ t ih =>
    intro S
    have p0 : (f_putS S (f_roC q)).i 0 = S.i 0 := f_putS_i _ _ (by decide) (by decide) (by decide) (by decide) (by decide)
    have d0 : ∀ n, (f_da (f_putS S (f_roC q)) 5 n).i 0 = S.i 0 := fun n => (da_i _ 5 n rfl).trans p0
    rw [f_ro]
    split
    · split
      · show (((f_da _ 5 _).si 23 0).si 34 0).i 0 = _
        rw [MS.si_i, if_neg (by decide), MS.si_i, if_neg (by decide)]
        exact d0 _
      · split
        · exact d0 _
        · rw [ih]; exact d0 _
    · show (((f_putS S (f_roC q)).si 23 0).si 34 0).i 0 = _
      rw [MS.si_i, if_neg (by decide), MS.si_i, if_neg (by decide)]
      exact p0
theorem ro0_0 (S : MS) (k : Nat) : (f_ro0 S k).i 0 = 0 := by
  unfold f_ro0
  rw [f_putM_i _ (by decide) (by decide) (by decide) (by decide) (by decide), rm_i, MS.si_i, if_neg (by decide), MS.si_i, if_neg (by decide), MS.si_i, if_neg (by decide), MS.si_i, if_pos rfl]
theorem readOut_0 (S : MS) (k : Nat) : (f_readOut S k).2.i 0 = 0 := by
  unfold f_readOut
  split
  · rw [ro_0, f_putM_i _ (by decide) (by decide) (by decide) (by decide) (by decide), f_putS_i _ _ (by decide) (by decide) (by decide) (by decide) (by decide), ro0_0]
  · exact ro0_0 S k
section Calls
variable {w : Wd} {c : Nat → ClassId} {a : Nat → Nat} {h9 : PH} {V : Nat → Prop} {α : Nat → Int64} {f : Nat → Option Nat} {κ κd ω ωd : Nat → Nat} {S S' : MS} {h g : PH}
theorem fnd_iff {k : Int32} {fn : Nat} (e : S.i 20 = nI fn) (h1 : fn ≤ 12) : ((0 : Int32) ≤ k ∧ k ≤ S.i 20 - 1) ↔ ∃ j, j < fn ∧ k = nI j := by
  rw [e]
  constructor
  · intro y
    obtain ⟨j, hj, rfl⟩ := nI_of (Int32.not_lt.mpr y.1)
    by_cases q : fn = 0
    · subst q
      exact absurd (Int32.le_trans y.1 y.2) (by decide)
    · have y2 := y.2
      rw [show nI fn - 1 = nI (fn - 1) from nI_sub' (v := fn) (b := 1) (by omega)] at y2
      have := (nI_leI hj (by omega)).mp y2
      exact ⟨j, by omega, rfl⟩
  · rintro ⟨j, hj, rfl⟩
    refine ⟨nI_le (a := 0) (by omega) (by omega), ?_⟩
    rw [show nI fn - 1 = nI (fn - 1) from nI_sub' (v := fn) (b := 1) (by omega)]
    exact nI_le (by omega) (by omega)
theorem zy_isFound (hX : Wx w c) (Z : ZI c a h9 V α f κ κd ω ωd S h) (k : Int32) : T w gw yX6_isFoundOne cX6_isFoundOne 2 (some .boolean) 0 (40 * 0) 0 0 [.ref (a 0), .int k] (EQ h) (fun r g => g = h ∧ ((r = some (.int 0) ∧ ¬ ((0 : Int32) ≤ k ∧ k ≤ S.i 20 - 1)) ∨ (r = some (.int 1) ∧ ∃ j fn, j < fn ∧ fn ≤ 12 ∧ S.i 20 = nI fn ∧ k = nI j))) := by
  obtain ⟨fn, gf, Bx, e20, f1, -⟩ := Z.2.2.2.2.2.2.1
  have fi := fnd_iff (k := k) e20 f1
  refine TA.intro hX.1 rfl (by decide +kernel) (Nat.le_of_ble_eq_true rfl) (fun z C Y E hn h1 hA => ?_)
  rw [show h1 = h from hA]
  clear hA
  have T22 : ¬ ((0 : Int32) ≤ k ∧ k ≤ S.i 20 - 1) → X z 0 0 (EQ h) 22 [some (.ref (a 0)), some (.int k)] [] := fun nf => by
    refine x_iconst (v := 0) C dX6_isFoundOne_22 (by decide) ?_
    exact x_zret C E dX6_isFoundOne_23 (by decide) (fun g e => ⟨e, Or.inl ⟨rfl, nf⟩⟩)
  refine x_iload_n C dX6_isFoundOne_0 rfl ?_
  refine x_if_lt (tgt := 22) C dX6_isFoundOne_1 (by decide) (fun q => T22 (fun y => absurd q (Int32.not_lt.mpr y.1))) (fun c1 => ?_)
  obtain ⟨j, hj, rfl⟩ := nI_of c1
  refine x_iload_n C dX6_isFoundOne_4 rfl ?_
  refine x_aload_n C dX6_isFoundOne_5 rfl ?_
  refine e_get C Y kd_X6 5 (by decide) wf_X6_43 dX6_isFoundOne_6 Bx rfl ?_
  refine x_icmp_ge (tgt := 22) C dX6_isFoundOne_9 (by decide) (fun q => T22 (fun y => by obtain ⟨j2, h2, e2⟩ := fi.mp y; rw [e2] at q; exact absurd (nI_lt h2 (by omega)) (Int32.not_lt.mpr q))) (fun c9 => ?_)
  have hjf : j < fn := (nI_ltI hj (by omega)).mp (Int32.not_le.mp c9)
  refine x_iload_n C dX6_isFoundOne_12 rfl ?_
  refine x_bipush (v := 12) C dX6_isFoundOne_13 (by decide) ?_
  refine x_icmp_ge (tgt := 22) C dX6_isFoundOne_15 (by decide) (fun q => absurd (nI_lt (b := 12) (show j < 12 by omega) (by decide)) (Int32.not_lt.mpr q)) (fun c2 => ?_)
  refine x_iconst (v := 1) C dX6_isFoundOne_18 (by decide) ?_
  refine x_goto (tgt := 23) C dX6_isFoundOne_19 (by decide) ?_
  exact x_zret C E dX6_isFoundOne_23 (by decide) (fun g e => ⟨e, Or.inr ⟨rfl, j, fn, hjf, f1, e20, rfl⟩⟩)
theorem mh_ro0 {j : Nat} (hS : MH S) : MH (f_rm ((((S.si 0 0).si 23 0).si 34 0).si 36 (-1)) j 8) := by
  have g0 : MG (f_rm ((((S.si 0 0).si 23 0).si 34 0).si 36 (-1)) j 8) := by
    obtain ⟨m, m1, m2⟩ := hS.1.buf
    obtain ⟨f, f1, f2⟩ := hS.1.fnd
    exact ⟨hS.1.mi.ro0, hS.1.ds.sm ⟨fun _ => (rm_a _ j (by decide) 8).trans rfl, fun _ => (rm_a _ j (by decide) 8).trans rfl⟩, ⟨m, ((f_rm_i _ j 2 8).trans rfl).trans m1, m2⟩, ⟨f, ((f_rm_i _ j 20 8).trans rfl).trans f1, f2⟩⟩
  exact ⟨g0, ⟨0, (f_rm_i _ j 23 8).trans rfl, by decide, fun j hj => absurd hj (Nat.not_lt_zero j)⟩, fun k => by rw [rm_a _ j (by decide) 8]; exact hS.2.2 k⟩
theorem zy_readOut (hX : Wx w c) (hS : MH S) (Z : ZI c a h9 V α f κ κd ω ωd S h) (k : Int32) : TCX w yX6_readOut cX6_readOut 4 (some .int) 1050 8040 [.ref (a 0), .int k] h
    (fun r g => ∃ v v' S', r = some (.int v) ∧ (∀ M, Wm w M → TF w M yX7_readOut cX7_readOut 4 (some .int) 5 [.int k] S (some (.int v')) S') ∧ S'.i 0 = 0 ∧ ZQ c a h9 V S' g) (fun En g => ∃ v' S', (∀ M, Wm w M → TF w M yX7_readOut cX7_readOut 4 (some .int) 5 [.int k] S (some (.int v')) S') ∧ (En = IOE ∧ S'.i 0 = 1) ∧ ZQ c a h9 V S' g) := by
  have hW := hX.1
  have Bx := Z.x
  refine TCX.intro hX.1 rfl (by decide +kernel) (Nat.le_of_ble_eq_true rfl) (fun z C Y E hn => ?_)
  refine x_aload_n C dX6_readOut_0 rfl ?_
  refine x_iload_n C dX6_readOut_1 rfl ?_
  refine k_callR (kc := 1050) (ks := 8040) (mc' := 0) (ms' := 0) (st := []) C Y hW E.1 (zy_isFound hX Z k) rfl md_X6_isFoundOne wi_X6_isFoundOne ws_X6_isFoundOne wm_X6_151 dX6_readOut_2 rfl (by decide) (by decide) Bx rfl rfl (by decide) (fun r g hg => ?_)
  obtain ⟨eg, hg⟩ := hg
  rw [eg]
  rcases hg with ⟨rfl, nf⟩ | ⟨rfl, j, fn, hjf, f12, e20, rfl⟩
  · refine x_if_ne (tgt := 18) C dX6_readOut_5 (by decide) (fun q => absurd rfl q) (fun _ => ?_)
    exact u_thr (kc := 1049) (ks := 8034) hX C E exs_IOE at_76 wc_X6_72 wz_IndexOutOfBoundsException (show (156, "no such found one") ∈ txts by simp [txts]) dX6_readOut_8 dX6_readOut_11 dX6_readOut_12 dX6_readOut_14 dX6_readOut_17 (by decide) (fun g e => ⟨0, S.si 0 1, fun M hM => s_readOut_f hM k nf, ⟨rfl, by rw [MS.si_i, if_pos rfl]⟩, by rw [show g = h from e]; exact ⟨hS.s0 1, α, f, κ, κd, ω, ωd, Z.s0 1⟩⟩)
  refine x_if_ne (tgt := 18) C dX6_readOut_5 (by decide) (fun _ => ?_) (fun q => absurd q (by decide))
  refine E.go C Y (fun z' C Y E hn1 => ?_)
  rw [hn] at hn1
  have hn := hn1
  obtain ⟨t1, ht1⟩ := Y.2.2.1
  refine x_aload_n C dX6_readOut_18 rfl ?_
  refine e_get C Y kd_X6 2 (by decide) wf_X6_26 dX6_readOut_19 Bx rfl ?_
  refine x_iconst (v := 0) C dX6_readOut_22 (by decide) ?_
  have hj : j < 12 := by omega
  refine k_nil (st := []) hX C Y E.cs (by decide) (Z.s0 0) dX6_readOut_23 (by decide) (fun g Zg => ?_)
  have hS1 : MH (((S.si 0 0).si 23 0).si 34 0) := hS.clear
  obtain ⟨-, -, ⟨fr, at_, en, fa, pl, mo, Bd, hmo⟩, -⟩ := Zg.1.dec
  refine x_aload_n C dX6_readOut_26 rfl ?_
  refine e_get C Y kd_X6 3 (by decide) wf_X6_35 dX6_readOut_27 Zg.x rfl ?_
  refine u_callV (st := []) C Y hW E.cs (d_forget hW Bd) md_X1_forgetFault wi_X1_forgetFault ws_X1_forgetFault wm_X6_159 dX6_readOut_30 rfl (by decide) (by decide) Bd rfl rfl (by decide) ?_
  obtain ⟨rn1, gr1, x1⟩ := Zg.2.2.2.2.2.2.2.x
  have P1 := EH.putD (S' := (((S.si 0 0).si 23 0).si 34 0).si 36 (-1)) ⟨x1, Zg.1.dec⟩ (LSx.si _ 36 _ (by decide)) fr at_ en 0 (-1) mo hmo
  have Z2 : ZI c a h9 V α f κ κd ω ωd ((((S.si 0 0).si 23 0).si 34 0).si 36 (-1)) (hs g (a 9) (.inr (1, [.ref (a 7), fr, .int at_, .int en, .int 0, .int (-1), .int mo]))) := Zg.ofD P1.2 P1.1.el ⟨Zg.2.2.1.1.si, Zg.2.2.1.2.si⟩ (fun _ _ _ => rfl) (fun q hq => by rw [MS.si_i, if_neg (by omega)])
  have hS2 : MH (f_rm ((((S.si 0 0).si 23 0).si 34 0).si 36 (-1)) j 8) := mh_ro0 hS
  have Z2' : ZI c a h9 V α f κ κd ω ωd (f_rm ((((S.si 0 0).si 23 0).si 34 0).si 36 (-1)) j 8) (hs g (a 9) (.inr (1, [.ref (a 7), fr, .int at_, .int en, .int 0, .int (-1), .int mo]))) := Z2.mod ⟨hS2.1.mi.2.1, hS2.1.mi.1⟩ (fun q j hq => f_rm_a _ _ _ (by omega)) (fun q _ => rm_i _ _ _ _) ⟨fun q _ => rm_i _ _ _ _, fun q j => rm_w _ _ _ _ _, fun q j q1 q2 => f_rm_a _ _ _ (by omega)⟩
  obtain ⟨fn2, gf2, Bx2, e20', f2, Bf2, af2⟩ := Z2'.2.2.2.2.2.2.1
  have efn : fn2 = fn := by
    rw [rm_i] at e20'
    have e21 : S.i 20 = nI fn2 := e20'
    exact (nI_eq (by omega) (by omega)).mp (e21.symm.trans e20)
  subst efn
  have hm : AB (gf2 j) (fun b => (f_rm ((((S.si 0 0).si 23 0).si 34 0).si 36 (-1)) j 8).a 19 b) := fun b hb => (af2 j hjf b hb).trans (by
    show (f_rm ((((S.si 0 0).si 23 0).si 34 0).si 36 (-1)) j 8).a 21 (8 * j + b) = (f_rm ((((S.si 0 0).si 23 0).si 34 0).si 36 (-1)) j 8).a 19 b
    rw [rm_19 _ _ _ hb, f_rm_a _ _ _ (by decide)])
  refine x_aload_n C dX6_readOut_33 rfl ?_
  refine x_aload_n C dX6_readOut_34 rfl ?_
  refine e_get C Y kd_X6 4 (by decide) wf_X6_39 dX6_readOut_35 Z2'.x rfl ?_
  refine x_iload_n C dX6_readOut_38 rfl ?_
  refine x_lald C ht1 dX6_readOut_39 (fun q e => by rw [e]; exact Bf2) (vp_in_nI hj (by decide)) ?_
  rw [nI_clamp (by omega)]
  refine k_callR (kc := 1050) (ks := 8040) (mc' := 0) (ms' := 0) (st := []) C Y hW E.cs (zy_isSelected hX Z2' hm) rfl md_X6_isSelected wi_X6_isSelected ws_X6_isSelected wm_X6_162 dX6_readOut_40 rfl (by decide) (by decide) Z2'.x rfl rfl (by decide) (fun rr g3 hg => ?_)
  -- what is to be shown at the end
  have fin : ∀ (v : Int32) (q g : PH) (κ κd ω ωd : Nat → Nat) (Q : MS), q = g → (f_readOut S j).2 = Q → ZI c a h9 V α f κ κd ω ωd Q g → ∃ v0 v' S', some (Value.int v) = some (.int v0) ∧ (∀ M, Wm w M → TF w M yX7_readOut cX7_readOut 4 (some .int) 5 [.int (nI j)] S (some (.int v')) S') ∧ S'.i 0 = 0 ∧ ZQ c a h9 V S' q := fun v q g κ κd ω ωd Q e1 e2 ZQ' => ⟨v, (f_readOut S j).1, (f_readOut S j).2, rfl, fun M hM => s_readOut hM hS.1.mi j fn2 e20 hjf (by omega), readOut_0 S j, hS.readOut, α, f, κ, κd, ω, ωd, by rw [e1, e2]; exact ZQ'⟩
  have eRO : (f_ro0 S j).i 7 = 1 → f_readOut S j = f_ro 10 0 (f_putM (f_putS (f_ro0 S j) 64)) := fun y => by unfold f_readOut; rw [if_pos y]
  have eRN : ¬ (f_ro0 S j).i 7 = 1 → f_readOut S j = (-1, f_ro0 S j) := fun y => by unfold f_readOut; rw [if_neg y]
  have eR0 : f_putM (f_rm ((((S.si 0 0).si 23 0).si 34 0).si 36 (-1)) j 8) = f_ro0 S j := rfl
  rw [eR0] at hg
  have hS3 : MH (f_ro0 S j) := hS2.putM
  generalize f_ro0 S j = R0 at hg eRO eRN hS3
  generalize f_readOut S j = FR at fin eRO eRN
  have LP : ∀ (r i : Nat) (Q : MS) (κ κd ω ωd : Nat → Nat) (h : PH), i + r = 10 → MH Q → ZI c a h9 V α f κ κd ω ωd Q h → FR = f_ro r i Q → X z' (105 * r) (804 * r) (EQ h) 52 [some (.ref (a 0)), some (.int (nI j)), some (.int 1), some (.int (nI i))] [] := by
    intro r
    have T148 : ∀ (kc ks : Nat) (h : PH) (L2 : List (Option Value)) (κ κd ω ωd : Nat → Nat) (Q : MS), ZI c a h9 V α f κ κd ω ωd Q h → FR.2 = Q → X z' kc ks (EQ h) 148 (some (.ref (a 0)) :: L2) [] := fun kc ks h L2 κ κd ω ωd Q Z e => by
      obtain ⟨⟨n, n1, Bl⟩, -⟩ := Z.1.dec
      refine x_aload_n C dX6_readOut_148 rfl ?_
      refine e_get C Y kd_X6 2 (by decide) wf_X6_26 dX6_readOut_149 Z.x rfl ?_
      refine u_callV (st := []) C Y hW E.cs (l_size hW Bl) md_X4_size wi_X4_size ws_X4_size wm_X6_181 dX6_readOut_152 rfl (by decide) (by decide) Bl rfl rfl (by decide) ?_
      exact x_iret C E dX6_readOut_155 (fun g e2 => fin _ _ _ κ κd ω ωd Q e2 e Z)
    induction r with
    | zero =>
      intro i Q κ κd ω ωd h hi hQ Z eR
      obtain rfl : i = 10 := by omega
      refine x_iload_n C dX6_readOut_52 rfl ?_
      refine x_bipush (v := 10) C dX6_readOut_53 (by decide) ?_
      exact x_icmp_ge (tgt := 148) C dX6_readOut_55 (by decide) (fun _ => T148 _ _ _ _ κ κd ω ωd Q Z (by rw [eR]; rfl)) (fun q => absurd (Int32.le_refl _) q)
    | succ r ih =>
      intro i Q κ κd ω ωd h hi hQ Z eR
      refine x_iload_n C dX6_readOut_52 rfl ?_
      refine x_bipush (v := 10) C dX6_readOut_53 (by decide) ?_
      refine x_icmp_ge (tgt := 148) C dX6_readOut_55 (by decide) (fun q => absurd q (Int32.not_le.mpr (nI_lt (b := 10) (show i < 10 by omega) (by decide)))) (fun _ => ?_)
      refine x_iload_n C dX6_readOut_58 rfl ?_
      refine x_if_eq (tgt := 148) C dX6_readOut_59 (by decide) (fun q => absurd q (by decide)) (fun _ => ?_)
      have T79 : ∀ x : Int32, x = f_roC i → X z' (105 * (r + 1)) (804 * (r + 1)) (EQ h) 79 [some (.ref (a 0)), some (.int (nI j)), some (.int 1), some (.int (nI i))] [.int x, .ref (a 3)] := fun x ex => by
        subst ex
        have hc : f_roC i = 91 ∨ f_roC i = 123 := by unfold f_roC; split <;> simp
        have hcb : byt (f_roC i) := by
          rcases hc with e | e
          · rw [e]; exact ⟨91, by decide, rfl⟩
          · rw [e]; exact ⟨123, by decide, rfl⟩
        refine x_sipush (v := 253) C dX6_readOut_79 (by decide) ?_
        refine k_putS (st := []) hX C Y E.cs (by decide) (by decide) Z hcb dX6_readOut_82 (by decide) (fun g Zg aw => ?_)
        have s6 := putS_6 Z.2.2.1.1 hc
        have hQ1 : MH (f_putS Q (f_roC i)) := hQ.putS hcb
        rw [f_ro] at eR
        generalize f_putS Q (f_roC i) = Q1 at Zg aw s6 eR hQ1
        have B : g (a 3) = _ := Zg.2.2.2.2.1
        obtain ⟨ga, na, Ra, a1, a2⟩ := aw
        by_cases q7 : Q1.i 7 = 1
        · obtain ⟨L0, l1, l2, l3⟩ := s6 q7
          obtain ⟨y1, y2⟩ := a1 q7
          have en : na = L0 := (nI_eq (by have := Ra.2.2.2; omega) (by omega)).mp (y1.symm.trans l3)
          have ov : outV Q1 = nI L0 := by unfold outV; rw [if_pos q7, l3]
          have em : f_m Q1 = na := by unfold f_m; rw [y1, nI_clamp (by omega)]
          rw [if_pos q7, em] at eR
          refine x_if_gt (tgt := 98) C dX6_readOut_85 (by decide) (fun _ => ?_) (fun q => absurd (by rw [ov]; exact nI_lt (a := 0) (show 0 < L0 by omega) (by omega)) q)
          obtain ⟨-, -, ⟨fr, at_, en9, fa, pl, mo, Bd, -⟩, -⟩ := Zg.1.dec
          obtain ⟨rn, gr, x⟩ := Zg.2.2.2.2.2.2.2.x
          obtain ⟨r', tx, lr1, lr2, lr3, lr4⟩ := hQ1.1.mi.2.2
          have er : r' = rn := (nI_eq (by omega) (by have := x.2.2.2.1; omega)).mp (lr1.symm.trans x.2.2.1)
          subst er
          refine x_aload_n C dX6_readOut_98 rfl ?_
          refine e_get C Y kd_X6 3 (by decide) wf_X6_35 dX6_readOut_99 Zg.x rfl ?_
          refine x_aload_n C dX6_readOut_102 rfl ?_
          refine e_get C Y kd_X6 1 (by decide) wf_X6_19 dX6_readOut_103 Zg.x rfl ?_
          refine u_callV (st := [.ref (a 9)]) C Y hW E.cs (u_lastAnswer hX B) md_X0_lastAnswer wi_X0_lastAnswer ws_X0_lastAnswer wm_X6_138 dX6_readOut_106 rfl (by decide) (by decide) B rfl rfl (by simp [Value.category]) ?_
          refine X.room (kc' := 105 * r + Bc (na - 21)) (ks' := 804 * r + Bs (na - 21)) ?_ (by unfold Bc; omega) (by unfold Bs; omega)
          refine k_callR (kc := 105 * r) (ks := 804 * r) (st := []) C Y hW E.cs (d_readsX hX Ra (Zg.1.wd (i := 5) (by omega)) (Zg.1.wd (i := 6) (by omega)) x Zg.1.dec (q0 := 5) (by decide) y2 (da0_byt Zg.2.2.1.2 rfl na) lr3 lr4) rfl md_X1_reads wi_X1_reads ws_X1_reads wm_X6_170 dX6_readOut_109 rfl (by decide) (by decide) Bd rfl rfl (by decide) (fun r4 g4 hg => ?_)
          obtain ⟨κ9, ω9, r9, gr9, x9, D9, hr⟩ := hg
          have hD := hQ1.da (q := 5) rfl na
          have st := da_st (S := Q1) 5 na
          have Z4 : ZI c a h9 V α f κ κ9 ω ω9 (f_da Q1 5 na) g4 := Zg.ofD D9 x9.el ⟨hD.1.mi.2.1, hD.1.mi.1⟩ st.1 st.2
          rcases hr with ⟨rfl, n41, at4, en4, fa4, pl4, Bd4, hmo⟩ | ⟨rfl, p41⟩
          · rw [if_neg (by rw [n41]; decide)] at eR
            refine x_if_ne (tgt := 134) C dX6_readOut_112 (by decide) (fun _ => ?_) (fun q => absurd q (by decide))
            refine x_aload_n C dX6_readOut_134 rfl ?_
            refine e_get C Y kd_X6 3 (by decide) wf_X6_35 dX6_readOut_135 Z4.x rfl ?_
            refine u_callV (st := []) C Y hW E.cs (d_more hW hmo Bd4) md_X1_endsByMore wi_X1_endsByMore ws_X1_endsByMore wm_X6_177 dX6_readOut_138 rfl (by decide) (by decide) Bd4 rfl rfl (by decide) ?_
            refine o_istore_nE (L' := [some _, some _, some _, some _]) C dX6_readOut_141 (by rw [hn]; decide) rfl ?_
            refine o_iincE (v := nI (i + 1)) (L' := [some _, some _, some _, some _]) C dX6_readOut_142 rfl (nI_1 i) (by rw [hn]; decide) rfl ?_
            refine x_goto (tgt := 52) C dX6_readOut_145 (by decide) ?_
            rcases hmo with e0 | e1
            · rw [if_pos e0] at eR
              rw [e0]
              refine x_iload_n C dX6_readOut_52 rfl ?_
              refine x_bipush (v := 10) C dX6_readOut_53 (by decide) ?_
              refine x_icmp_ge (tgt := 148) C dX6_readOut_55 (by decide) (fun _ => T148 _ _ _ _ κ κ9 ω ω9 _ Z4 (by rw [eR])) (fun _ => ?_)
              refine x_iload_n C dX6_readOut_58 rfl ?_
              exact x_if_eq (tgt := 148) C dX6_readOut_59 (by decide) (fun _ => T148 _ _ _ _ κ κ9 ω ω9 _ Z4 (by rw [eR])) (fun q => absurd rfl q)
            · rw [if_neg (by rw [e1]; decide)] at eR
              rw [e1]
              exact ih (i + 1) _ κ κ9 ω ω9 g4 (by omega) hD Z4 eR
          · rw [if_pos p41] at eR
            refine x_if_ne (tgt := 134) C dX6_readOut_112 (by decide) (fun q => absurd rfl q) (fun _ => ?_)
            refine x_aload_n C dX6_readOut_115 rfl ?_
            refine e_get C Y kd_X6 2 (by decide) wf_X6_26 dX6_readOut_116 Z4.x rfl ?_
            refine x_iconst (v := 0) C dX6_readOut_119 (by decide) ?_
            refine k_nil (st := []) hX C Y E.cs (by decide) Z4 dX6_readOut_120 (by decide) (fun g5 Z5 => ?_)
            obtain ⟨-, -, ⟨fr, at_, en, fa, pl, mo, Bd, hmo⟩, -⟩ := Z5.1.dec
            refine x_bipush (v := (-2)) C dX6_readOut_123 (by decide) ?_
            refine x_aload_n C dX6_readOut_125 rfl ?_
            refine e_get C Y kd_X6 3 (by decide) wf_X6_35 dX6_readOut_126 Z5.x rfl ?_
            refine u_callV (st := [.int (-2)]) C Y hW E.cs (d_faultOf hW rfl Bd) md_X1_lastFault wi_X1_lastFault ws_X1_lastFault wm_X6_174 dX6_readOut_129 rfl (by decide) (by decide) Bd rfl rfl (by simp [Value.category]) ?_
            refine x_isub C dX6_readOut_132 ?_
            exact x_iret C E dX6_readOut_133 (fun g e => fin _ _ _ κ κ9 ω ω9 _ e (by rw [eR]) Z5)
        · rw [if_neg q7] at eR
          have ov : outV Q1 ≤ 0 := by
            unfold outV
            rw [if_neg q7]
            split <;> decide
          refine x_if_gt (tgt := 98) C dX6_readOut_85 (by decide) (fun q => absurd ov (Int32.not_le.mpr q)) (fun _ => ?_)
          refine x_aload_n C dX6_readOut_88 rfl ?_
          refine e_get C Y kd_X6 2 (by decide) wf_X6_26 dX6_readOut_89 Zg.x rfl ?_
          refine x_iconst (v := 0) C dX6_readOut_92 (by decide) ?_
          refine k_nil (st := []) hX C Y E.cs (by decide) Zg dX6_readOut_93 (by decide) (fun g5 Z5 => ?_)
          refine x_iconst (v := -1) C dX6_readOut_96 (by decide) ?_
          exact x_iret C E dX6_readOut_97 (fun g e => fin _ _ _ κ κd ω ωd _ e (by rw [eR]) Z5)
      have par : nI i - nI i / 2 * 2 = 0 ↔ i % 2 = 0 := by
        have key : ∀ i, i < 10 → (nI i - nI i / 2 * 2 = 0 ↔ i % 2 = 0) := by decide +kernel
        exact key i (by omega)
      refine x_aload_n C dX6_readOut_62 rfl ?_
      refine e_get C Y kd_X6 1 (by decide) wf_X6_19 dX6_readOut_63 Z.x rfl ?_
      refine x_iload_n C dX6_readOut_66 rfl ?_
      refine x_iconst (v := 2) C dX6_readOut_67 (by decide) ?_
      refine x_irem C dX6_readOut_68 (by decide) ?_
      refine x_if_ne (tgt := 77) C dX6_readOut_69 (by decide) (fun q => ?_) (fun q => ?_)
      · exact x_bipush (v := 91) C dX6_readOut_77 (by decide) (T79 _ (by unfold f_roC; rw [if_neg (fun y => q (par.mpr y))]))
      · refine x_bipush (v := 123) C dX6_readOut_72 (by decide) ?_
        exact x_goto (tgt := 79) C dX6_readOut_74 (by decide) (T79 _ (by unfold f_roC; rw [if_pos (par.mp q)]))
  rcases hg with ⟨rfl, q7, Z3⟩ | ⟨rfl, q7, Z3⟩
  · refine x_if_ne (tgt := 48) C dX6_readOut_43 (by decide) (fun _ => ?_) (fun q => absurd q (by decide))
    refine x_iconst (v := 1) C dX6_readOut_48 (by decide) ?_
    refine o_istore_nE (L' := [some _, some _, some _, none]) C dX6_readOut_49 (by rw [hn]; decide) rfl ?_
    refine x_iconst (v := 0) C dX6_readOut_50 (by decide) ?_
    refine o_istore_nE (L' := [some _, some _, some _, some _]) C dX6_readOut_51 (by rw [hn]; decide) rfl ?_
    exact LP 10 0 _ κ κd ω ωd g3 rfl ((hS3.putS ⟨64, by decide, rfl⟩).putM) Z3 (eRO q7)
  · refine x_if_ne (tgt := 48) C dX6_readOut_43 (by decide) (fun q => absurd rfl q) (fun _ => ?_)
    refine x_iconst (v := -1) C dX6_readOut_46 (by decide) ?_
    exact x_iret C E dX6_readOut_47 (fun g e => fin _ _ _ κ κd ω ωd _ e (by rw [eRN q7]) Z3)
end Calls
