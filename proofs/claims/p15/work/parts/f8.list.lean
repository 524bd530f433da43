/-! The list, told whole: a draft, behind a draft. -/
def ELx (c : Nat → ClassId) (a κ ω : Nat → Nat) (S : MS) (h : PH) (r : Nat) (gr : Nat → Option Nat) : Prop := (∀ q, ω q ≠ 0 → κ q ≠ 0) ∧ h (a 7) = some (.inr (4, [.ref (a 8), .int (nI r)])) ∧ S.i 23 = nI r ∧ r ≤ 100 ∧ h (a 8) = some (zR c gr) ∧ (∀ i p, i < 101 → gr i = some p → RL_ h ω i p) ∧ (∀ i, i < r → ∃ p, gr i = some p ∧ REx c h S i p) ∧ TI S r
section Lst
variable {w : Wd} {c : Nat → ClassId} {a : Nat → Nat} {h h0 g g1 : PH} {p v b ba r : Nat} {W : Nat → Prop} {κ κ' ω ω' : Nat → Nat} {S S' : MS} {lt lt' : Value} {gr : Nat → Option Nat} {va sg : Int64} {co fu ta un vn ln : Int32}
theorem ELx.el (E : ELx c a κ ω S h r gr) : EL c a κ ω S h := ⟨E.1, r, gr, E.2⟩
theorem EL.x (E : EL c a κ ω S h) : ∃ r gr, ELx c a κ ω S h r gr := by
  obtain ⟨x0, r, gr, x⟩ := E
  exact ⟨r, gr, x0, x⟩
theorem rd_vn {va va' sg sg' : Int64} {co fu ta un vn ln co' fu' ta' un' vn' ln' : Int32} {v v' : Nat} {lt lt' : Value} {o : Option va_E} (h1 : o = some (.inr (3, rdL va co fu sg ta un v vn lt ln))) (h2 : o = some (.inr (3, rdL va' co' fu' sg' ta' un' v' vn' lt' ln'))) : vn = vn' := by
  have := h1.symm.trans h2
  simp only [Option.some.injEq, Sum.inr.injEq, Prod.mk.injEq, List.cons.injEq, Value.long.injEq, Value.int.injEq, Value.ref.injEq, true_and, and_true] at this
  exact this.2.2.2.2.2.2.2.1
theorem REx.vle {i : Nat} (R : REx c g S i p) (D : DK c (a 7) (a 8) (a 9) h0 W κ g) (kp : κ p = 1) : (S.a 30 i).toNatClampNeg ≤ 11 := by
  obtain ⟨v, lt, fv, r1, -⟩ := R
  obtain ⟨e, e1, va, sg, co, fu, ta, un, ln, v', vn, lt', e2, -, e4, -⟩ := D.rd kp
  rw [e2] at e1
  rw [rd_vn r1 e1, nI_clamp (by omega)]
  exact e4
theorem ELx.upd (E : ELx c a κ ω S g r gr) (D : DK c (a 7) (a 8) (a 9) h0 W κ g) (hr : gr r = some p) (B : g p = some (.inr (3, rdL va co fu sg ta un v vn lt ln))) (hl : lt' = lt ∨ ∃ t, lt' = .ref t ∧ g t = none)
    (hd : ∃ (fr : Value) (at_ en fa pl mo : Int32), g1 (a 9) = some (.inr (1, [.ref (a 7), fr, .int at_, .int en, .int fa, .int pl, .int mo])) ∧ (mo = 0 ∨ mo = 1)) (hp : ∃ (va sg : Int64) (co fu ta un ln : Int32) (vn : Nat), vn ≤ 11 ∧ g1 p = some (.inr (3, rdL va co fu sg ta un v (nI vn) lt' ln))) (hv : ∃ fv : Nat → Int32, g1 v = some (.inl (c 0, 11, .inl fv))) (hk : LK c g1 lt') (fr : ∀ q, q ≠ a 9 → q ≠ p → q ≠ v → lt' ≠ .ref q → g1 q = g q) :
    ∃ κ' ω', (∀ q, ω' q ≠ 0 → κ' q ≠ 0) ∧ DK c (a 7) (a 8) (a 9) h0 W κ' g1 ∧ g1 (a 7) = g (a 7) ∧ g1 (a 8) = g (a 8) ∧ (∀ i p, i < 101 → gr i = some p → RL_ g1 ω' i p) ∧ ∀ S', KR r (f_tx S) S S' → ∀ i, i < r → ∃ p, gr i = some p ∧ REx c g1 S' i p := by
  obtain ⟨x0, x1, x2, x3, x4, x5, x6, x7⟩ := E
  have kR : ∀ j p, gr j = some p → κ p = 1 := fun j p hj => by
    obtain ⟨g', y1, y2⟩ := D.2.1
    rw [x4] at y1
    simp only [zR, Option.some.injEq, Sum.inl.injEq, Prod.mk.injEq, Sum.inr.injEq, true_and] at y1
    exact y2 j p (by rw [← y1]; exact hj)
  have kp := kR r p hr
  have Lr := x5 r p (by omega) hr
  obtain ⟨l1, va1, sg1, co1, fu1, ta1, un1, vn1, ln1, v1, lt1, l2, l3, l4⟩ := id Lr
  obtain ⟨e1, e2⟩ := rd_inj B l2
  subst e1 e2
  obtain ⟨ed, ed1, va2, sg2, co2, fu2, ta2, un2, ln2, v2, vn2, lt2, ed2, kv, -, kl⟩ := D.rd kp
  rw [ed2] at ed1
  obtain ⟨e1, e2⟩ := rd_inj B ed1
  subst e1 e2
  have nn := D.nn.2
  have n0 : ∀ q, ω q ≠ 0 → g q ≠ none := fun q hq => nn q (x0 q hq)
  have wde : ω (a 9) = 0 := Decidable.byContradiction fun n => x0 _ n D.2.2.2.2.1.2.2.1
  have w7 : ω (a 7) = 0 := Decidable.byContradiction fun n => x0 _ n D.2.2.2.2.1.1
  have w8 : ω (a 8) = 0 := Decidable.byContradiction fun n => x0 _ n D.2.2.2.2.1.2.1
  -- where the letters lie
  have lab : ∀ t, lt' = .ref t → ω t = 4 * r + 3 ∨ g t = none := fun t et => by
    rcases hl with y | ⟨t', y1, y2⟩
    · exact Or.inl (l4 t (y.symm.trans et))
    · have := Value.ref.inj (y1.symm.trans et)
      subst this
      exact Or.inr y2
  have st : ∀ q, ω q ≠ 4 * r + 1 → ω q ≠ 4 * r + 2 → ω q ≠ 4 * r + 3 → g q ≠ none → q ≠ a 9 → g1 q = g q := fun q q1 q2 q3 qn qd => fr q qd (fun e => q1 (by rw [e]; exact l1)) (fun e => q2 (by rw [e]; exact l3)) (fun e => (lab q e).elim q3 qn)
  have s7 : g1 (a 7) = g (a 7) := st _ (by omega) (by omega) (by omega) D.nn.1.1 D.2.2.2.2.1.2.2.2.2.1
  have s8 : g1 (a 8) = g (a 8) := st _ (by omega) (by omega) (by omega) D.nn.1.2.1 D.2.2.2.2.1.2.2.2.2.2
  have sx : ∀ S', KR r (f_tx S) S S' → ∀ i, i < r → ∃ p, gr i = some p ∧ REx c g1 S' i p := fun S' K i hi => by
    obtain ⟨q, q1, q2⟩ := x6 i hi
    have hvn := q2.vle D (kR i q q1)
    refine ⟨q, q1, q2.go (x5 i q (by omega) q1) (fun y y1 y2 => st y (by omega) (by omega) (by omega) (n0 y (by omega)) (fun e => by rw [e, wde] at y1; omega)) (fun y _ => K.1 y i hi) (fun y hy => K.2.1 y i hi (by omega) (by omega) (by omega)) (fun j hj => K.2.2.1 _ (by omega)) (fun j hj => K.2.2.2 _ (x7 i hi j hj))⟩
  have fin : ∀ κ' ω' : Nat → Nat, (∀ q, g q ≠ none → ω' q = ω q) → (∀ t, lt' = .ref t → ω' t = 4 * r + 3) → ∀ i q, i < 101 → gr i = some q → RL_ g1 ω' i q := fun κ' ω' hω hlt i q hi hq => by
    by_cases ei : i = r
    · subst ei
      rw [hr] at hq
      cases hq
      obtain ⟨va3, sg3, co3, fu3, ta3, un3, ln3, vn3, -, P3⟩ := hp
      exact ⟨by rw [hω _ (n0 _ (by rw [l1]; omega))]; exact l1, va3, sg3, co3, fu3, ta3, un3, nI vn3, ln3, v, lt', P3, by rw [hω _ (n0 _ (by rw [l3]; omega))]; exact l3, hlt⟩
    · obtain ⟨m1, va3, sg3, co3, fu3, ta3, un3, vn3, ln3, v3, lt3, m2, m3, m4⟩ := x5 i q hi hq
      refine ⟨by rw [hω _ (n0 _ (by rw [m1]; omega))]; exact m1, va3, sg3, co3, fu3, ta3, un3, vn3, ln3, v3, lt3, ?_, by rw [hω _ (n0 _ (by rw [m3]; omega))]; exact m3, fun t et => by rw [hω _ (n0 _ (by rw [m4 t et]; omega))]; exact m4 t et⟩
      rw [st q (by omega) (by omega) (by omega) (n0 q (by omega)) (fun e => by rw [e, wde] at m1; omega)]
      exact m2
  rcases hl with y | ⟨t, y1, y2⟩
  · refine ⟨κ, ω, x0, D.fin kp kv (by rw [y]; exact kl) hd hp hv hk fr, s7, s8, fin κ ω (fun _ _ => rfl) (fun t et => l4 t (y.symm.trans et)), sx⟩
  · rcases hk with z | ⟨t', m, fl, z1, z2, z3⟩
    · rw [y1] at z; exact nomatch z
    · have e9 := Value.ref.inj (y1.symm.trans z1)
      subst e9
      have D1 := D.new (k := 3) (e := .inl (c 0, m, .inl fl)) y2 ⟨m, fl, z2, rfl⟩
      have tp : p ≠ t := fun e => by rw [e, y2] at B; exact nomatch B
      have tv : v ≠ t := fun e => nn v (by rw [kv]; decide) (by rw [e]; exact y2)
      refine ⟨va_up κ t 3, va_up ω t (4 * r + 3), fun q hq => ?_, D1.fin (by rw [va_up_ne _ _ tp]; exact kp) (by rw [va_up_ne _ _ tv]; exact kv) (Or.inr ⟨t, y1, va_up_self ..⟩) hd hp hv (Or.inr ⟨t, m, fl, y1, z2, z3⟩) (fun q q1 q2 q3 q4 => by rw [hs_ne (fun e => q4 (by rw [e]; exact y1))]; exact fr q q1 q2 q3 q4), s7, s8, fin (va_up κ t 3) (va_up ω t (4 * r + 3)) (fun q hq => va_up_ne _ _ (fun e => hq (by rw [e]; exact y2))) (fun t' et => ?_), sx⟩
      · by_cases e : q = t
        · subst e; rw [va_up_self]; decide
        · rw [va_up_ne _ _ e] at hq ⊢; exact x0 q hq
      · have := Value.ref.inj (y1.symm.trans et)
        subst this
        exact va_up_self ..
theorem l_takesX (hW : Wc w c) {li ra n : Nat} (hn1 : n ≤ 100) (B : h li = some (.inr (4, [.ref ra, .int (nI n)]))) : TC w yX4_takesDraft cX4_takesDraft 1 (some .boolean) 0 [.ref li] h (some (.int (if n < 100 then 1 else 0))) (if n < 100 then hs h li (.inr (4, [.ref ra, .int (nI (n + 1))])) else h) := by
  refine TC.intro hW rfl (by decide +kernel) (Nat.le_of_ble_eq_true rfl) (fun z C Y E hn => ?_)
  refine x_aload_n C dX4_takesDraft_0 rfl ?_
  refine e_get C Y kd_X4 1 (by decide) wf_X4_17 dX4_takesDraft_1 B rfl ?_
  refine x_bipush (v := 100) C dX4_takesDraft_4 (by decide) ?_
  refine x_icmp_lt (tgt := 11) C dX4_takesDraft_6 (by decide) (fun c6 => ?_) (fun c6 => ?_)
  · have h100 : n < 100 := (nI_ltI (by omega) (by decide)).mp c6
    rw [if_pos h100, if_pos h100] at E
    refine x_aload_n C dX4_takesDraft_11 rfl ?_
    refine x_dup C dX4_takesDraft_12 rfl ?_
    refine e_get C Y kd_X4 1 (by decide) wf_X4_17 dX4_takesDraft_13 B rfl ?_
    refine x_iconst (v := 1) C dX4_takesDraft_16 (by decide) ?_
    refine x_iadd C dX4_takesDraft_17 ?_
    rw [nI_1]
    refine e_put C Y kd_X4 1 (by decide) rfl wf_X4_17 dX4_takesDraft_18 B (Nat.le_of_ble_eq_true rfl) rfl rfl rfl ?_
    refine x_iconst (v := 1) C dX4_takesDraft_21 (by decide) ?_
    refine e_zret C E dX4_takesDraft_22 (by decide) ?_ ?_
    all_goals rfl
  · have h100 : ¬ n < 100 := fun q => c6 (nI_lt q (by decide))
    rw [if_neg h100, if_neg h100] at E
    refine x_iconst (v := 0) C dX4_takesDraft_9 (by decide) ?_
    refine e_zret C E dX4_takesDraft_10 (by decide) ?_ ?_
    all_goals rfl
theorem l_draftX (hX : Wx w c) (XE : ELx c a κ ω S h r gr) (D : DK c (a 7) (a 8) (a 9) h0 W κ h) : T w gw yX4_draft cX4_draft 2 (some (.object "MeterBus$Reading")) 3 (40 * 3) 2 21 [.ref (a 7)] (EQ h) (fun q g => ∃ (κ' ω' : Nat → Nat) (gr' : Nat → Option Nat) (p : Nat), q = some (.ref p) ∧ gr' r = some p ∧ ELx c a κ' ω' S g r gr' ∧ DK c (a 7) (a 8) (a 9) h0 W κ' g ∧ g (a 9) = h (a 9)) := by
  have hW := hX.1
  refine TA.intro hW rfl (by decide +kernel) (Nat.le_of_ble_eq_true rfl) (fun z C Y E hn h1 hA => ?_)
  rw [show h1 = h from hA]
  clear hA
  obtain ⟨t, ht⟩ := hX.tR E.cs
  obtain ⟨x0, n2, x2, n1, g1, x5, x6, x7⟩ := id XE
  obtain ⟨l1, l2, l3, l4, l5, l6⟩ := D.2.2.2.2.1
  have nn := D.nn
  have n0 : ∀ q, ω q ≠ 0 → h q ≠ none := fun q hq => nn.2 q (x0 q hq)
  have ej : (if (100 : Int32) < nI r then (100 : Int32) else nI r) = nI r := if_neg (Int32.not_lt.mpr (nI_le (b := 100) n1 (by decide)))
  refine x_aload_n C dX4_draft_0 rfl ?_
  refine e_get C Y kd_X4 1 (by decide) wf_X4_17 dX4_draft_1 n2 rfl ?_
  refine x_bipush (v := 100) C dX4_draft_4 (by decide) ?_
  refine x_min C wm_X4_21 dX4_draft_6 (by rw [E.fr_]; decide) (by rw [E.lo_]; decide) ?_
  rw [ej]
  refine o_istore_nE (L' := [some _, some _]) C dX4_draft_9 (by rw [hn]; decide) rfl ?_
  refine x_aload_n C dX4_draft_10 rfl ?_
  refine e_get C Y kd_X4 0 (by decide) wf_X4_11 dX4_draft_11 n2 rfl ?_
  refine x_iload_n C dX4_draft_14 rfl ?_
  have rd : ∀ {kc ks : Nat} {pc : Nat} {L : List (Option Value)} {st : List Value} {hh : PH} {gg : Nat → Option Nat} (d : decode cX4_draft pc = .ok (.aaload, 1)) (hg : hh (a 8) = some (zR c gg)) (kk : X z kc ks (EQ hh) (pc + 1) L (va_rf (gg r) :: st)), X z kc ks (EQ hh) pc L (.int (nI r) :: .ref (a 8) :: st) := fun d hg kk => by
    refine x_aald C ht d (fun q e => by rw [e]; exact hg) (vp_in_nI (by omega) (by decide)) ?_
    rw [nI_clamp (by omega)]
    exact kk
  refine rd dX4_draft_15 g1 ?_
  cases eg : gr r with
  | some p =>
    refine x_ifnonnull (tgt := 32) C dX4_draft_16 (by decide) ?_
    refine x_aload_n C dX4_draft_32 rfl ?_
    refine e_get C Y kd_X4 0 (by decide) wf_X4_11 dX4_draft_33 n2 rfl ?_
    refine x_iload_n C dX4_draft_36 rfl ?_
    refine rd dX4_draft_37 g1 ?_
    rw [eg]
    exact x_aret C E (Or.inl ⟨_, rfl⟩) dX4_draft_38 (Or.inr ⟨p, rfl⟩) (fun q e => by rw [show q = _ from e]; exact ⟨κ, ω, gr, p, rfl, eg, XE, D, rfl⟩)
  | none =>
    refine x_ifnonnullN C dX4_draft_16 ?_
    refine x_aload_n C dX4_draft_19 rfl ?_
    refine e_get C Y kd_X4 0 (by decide) wf_X4_11 dX4_draft_20 n2 rfl ?_
    refine x_iload_n C dX4_draft_23 rfl ?_
    refine e_new (kc := 1) (ks := 11) (N := 10) C Y kd_X3 wc_X4_9 wn_X3 wz_X3 dX4_draft_24 (fs := [.long 0, .int 0, .int 0, .long 0, .int 0, .int 0, .null, .int 0, .null, .int 0]) (fun j hj => by rcases (show j = 0 ∨ j = 1 ∨ j = 2 ∨ j = 3 ∨ j = 4 ∨ j = 5 ∨ j = 6 ∨ j = 7 ∨ j = 8 ∨ j = 9 by omega) with rfl | rfl | rfl | rfl | rfl | rfl | rfl | rfl | rfl | rfl <;> rfl) (fun p hp => ?_)
    refine x_dup C dX4_draft_27 rfl ?_
    refine k_callIN (kc := 0) (ks := 0) (st := [.ref p, .int (nI r), .ref (a 8)]) C E.cs hX.1.1 gw_good (n_rd hW (hs_self ..)) md_X3_init rfl wi_X3_init (E.cs.nest hX (q := (RX4, 27, yX3_init)) (by simp [nst])) dX4_draft_28 rfl (by decide) (by decide) rfl (by simp [Value.category]) (fun r => X.opn (fun h2 hB => ?_))
    obtain ⟨rfl, v, v1, v2, e2⟩ := hB
    rw [hs_ne v1] at v2
    have e3 : h2 = hs (hs h v (.inl (c 0, 11, .inl (fun _ => 0)))) p (.inr (3, rdL 0 0 0 0 0 0 v 0 .null 0)) := by rw [e2, hs_comm _ (Ne.symm v1), hs_hs]
    have Dv := D.new (k := 2) (e := .inl (c 0, 11, .inl (fun _ => 0))) v2 ⟨_, rfl⟩
    have hp2 : hs h v (.inl (c 0, 11, .inl (fun _ => 0))) p = none := by rw [hs_ne (Ne.symm v1)]; exact hp
    have Dp := Dv.new (k := 1) (e := .inr (3, rdL 0 0 0 0 0 0 v 0 .null 0)) hp2 ⟨_, rfl, 0, 0, 0, 0, 0, 0, 0, v, 0, .null, rfl, by rw [va_up_ne _ _ v1, va_up_self], by decide, Or.inl rfl⟩
    rw [← e3] at Dp
    have np : h2 p = some (.inr (3, rdL 0 0 0 0 0 0 v 0 .null 0)) := by rw [e3]; exact hs_self ..
    have lra : h2 (a 7) = some (.inr (4, [.ref (a 8), .int (nI r)])) := by
      have nl1 : a 7 ≠ p := fun e => by rw [e, hp] at n2; exact nomatch n2
      have nl2 : a 7 ≠ v := fun e => by rw [e, v2] at n2; exact nomatch n2
      rw [e3, hs_ne nl1, hs_ne nl2]; exact n2
    have g8 : h2 (a 8) = some (zR c gr) := by
      have nl1 : a 8 ≠ p := fun e => by rw [e, hp] at g1; exact nomatch g1
      have nl2 : a 8 ≠ v := fun e => by rw [e, v2] at g1; exact nomatch g1
      rw [e3, hs_ne nl1, hs_ne nl2]; exact g1
    have kR : ∀ j p, gr j = some p → κ p = 1 := fun j p hj => by
      obtain ⟨g', y1, y2⟩ := D.2.1
      rw [g1] at y1
      simp only [zR, Option.some.injEq, Sum.inl.injEq, Prod.mk.injEq, Sum.inr.injEq, true_and] at y1
      exact y2 j p (by rw [← y1]; exact hj)
    have ko : ∀ q, h q ≠ none → q ≠ p ∧ q ≠ v := fun q hq => ⟨fun e => hq (by rw [e]; exact hp), fun e => hq (by rw [e]; exact v2)⟩
    refine e_ast (rr := (RX3, TX3, 10)) C Y ht rfl dX4_draft_31 g8 rfl (show r < 101 by omega) (by decide) np ?_
    have Dq := Dp.putR (g := va_up gr r (some p)) (fun i q hq => by
      by_cases e : i = r
      · subst e; rw [va_up_self] at hq; cases hq; exact va_up_self ..
      · rw [va_up_ne _ _ e] at hq
        have k1 := kR i q hq
        have := ko q (nn.2 q (by rw [k1]; decide))
        rw [va_up_ne _ _ this.1, va_up_ne _ _ this.2]
        exact k1)
    refine x_aload_n C dX4_draft_32 rfl ?_
    refine e_get C Y kd_X4 0 (by decide) wf_X4_11 dX4_draft_33 (by rw [hs_ne l4]; exact lra) rfl ?_
    refine x_iload_n C dX4_draft_36 rfl ?_
    refine rd (gg := va_up gr r (some p)) dX4_draft_37 (hs_self ..) ?_
    rw [va_up_self]
    exact x_aret C E (Or.inl ⟨_, rfl⟩) dX4_draft_38 (Or.inr ⟨p, rfl⟩) (fun q e => by
      rw [show q = _ from e]
      have old : ∀ q, h q ≠ none → q ≠ a 8 → hs h2 (a 8) (zR c (va_up gr r (some p))) q = h q := fun q hq q8 => by
        obtain ⟨k1, k2⟩ := ko q hq
        rw [hs_ne q8, e3, hs_ne k1, hs_ne k2]
      have w8 : ω (a 8) = 0 := Decidable.byContradiction fun n => x0 _ n l2
      have oldw : ∀ q, ω q ≠ 0 → hs h2 (a 8) (zR c (va_up gr r (some p))) q = h q := fun q hq => old q (n0 q hq) (fun e => hq (by rw [e]; exact w8))
      have p8 : p ≠ a 8 := fun e => by rw [← e, hp] at g1; exact nomatch g1
      refine ⟨va_up (va_up κ v 2) p 1, va_up (va_up ω v (4 * r + 2)) p (4 * r + 1), va_up gr r (some p), p, rfl, va_up_self .., ⟨fun q hq => ?_, by rw [hs_ne l4]; exact lra, x2, n1, hs_self .., fun i q hi hq => ?_, fun i hi => ?_, x7⟩, Dq, old _ nn.1.2.2 (Ne.symm l6)⟩
      · by_cases ep : q = p
        · subst ep; rw [va_up_self]; decide
        · rw [va_up_ne _ _ ep] at hq ⊢
          by_cases ev : q = v
          · subst ev; rw [va_up_self]; decide
          · rw [va_up_ne _ _ ev] at hq ⊢
            exact x0 q hq
      · by_cases ei : i = r
        · subst ei
          rw [va_up_self] at hq
          cases hq
          exact ⟨va_up_self .., 0, 0, 0, 0, 0, 0, 0, 0, v, .null, by rw [hs_ne p8]; exact np, by rw [va_up_ne _ _ v1, va_up_self], fun t et => nomatch et⟩
        · rw [va_up_ne _ _ ei] at hq
          obtain ⟨m1, va3, sg3, co3, fu3, ta3, un3, vn3, ln3, v3, lt3, m2, m3, m4⟩ := x5 i q hi hq
          have wo : ∀ y, ω y ≠ 0 → va_up (va_up ω v (4 * r + 2)) p (4 * r + 1) y = ω y := fun y hy => by
            obtain ⟨k1, k2⟩ := ko y (n0 y hy)
            rw [va_up_ne _ _ k1, va_up_ne _ _ k2]
          exact ⟨by rw [wo _ (by omega)]; exact m1, va3, sg3, co3, fu3, ta3, un3, vn3, ln3, v3, lt3, by rw [oldw _ (by omega)]; exact m2, by rw [wo _ (by omega)]; exact m3, fun t et => by rw [wo _ (by rw [m4 t et]; omega)]; exact m4 t et⟩
      · obtain ⟨q, q1, q2⟩ := x6 i hi
        exact ⟨q, by rw [va_up_ne _ _ (by omega)]; exact q1, q2.go (x5 i q (by omega) q1) (fun y y1 _ => oldw y (by omega)) (fun _ _ => rfl) (fun _ _ => rfl) (fun _ _ => rfl) (fun _ _ => rfl)⟩)
end Lst
