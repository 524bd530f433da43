/-! Reading: its text. -/
/-- .. and p is a Reading -/
def DP (c : Nat → ClassId) (li ra de : Nat) (h0 : PH) (W : Nat → Prop) (p : Nat) (co : Int32) (h : PH) : Prop := ∃ κ, DK c li ra de h0 W κ h ∧ κ p = 1 ∧ ∃ (va : Int64) (rest : List Value), h p = some (.inr (3, .long va :: .int co :: rest))
/-- .. and the decoder stands at a, its end at e, over the Row b -/
def DE (c : Nat → ClassId) (li ra de : Nat) (h0 : PH) (W : Nat → Prop) (p : Nat) (co : Int32) (b : Nat) (a e : Int32) (h : PH) : Prop := DP c li ra de h0 W p co h ∧ ∃ fa pl mo : Int32, h de = some (.inr (1, [.ref li, .ref b, .int a, .int e, .int fa, .int pl, .int mo])) ∧ (mo = 0 ∨ mo = 1)
section Rd
variable {w : Wd} {c : Nat → ClassId} {h h0 : PH} {li ra de p b ba n : Nat} {W : Nat → Prop} {f : Nat → Int32} {co : Int32}
theorem DP.get (D : DP c li ra de h0 W p co h) : ∃ κ, DK c li ra de h0 W κ h ∧ κ p = 1 ∧ ∃ (va sg : Int64) (fu ta un ln : Int32) (v vn : Nat) (lt : Value), h p = some (.inr (3, rdL va co fu sg ta un v (nI vn) lt ln)) ∧ κ v = 2 ∧ vn ≤ 11 ∧ (lt = .null ∨ ∃ t, lt = .ref t ∧ κ t = 3) := by
  obtain ⟨κ, D, hp, va0, rest, hc⟩ := D
  obtain ⟨e, e1, va, sg, co1, fu, ta, un, ln, v, vn, lt, e2, e3, e4, e5⟩ := D.rd hp
  have ec : co1 = co := by
    rw [e1, e2] at hc
    simp only [rdL, Option.some.injEq, Sum.inr.injEq, Prod.mk.injEq, List.cons.injEq, Value.int.injEq, true_and] at hc
    exact hc.2.1
  subst ec
  exact ⟨κ, D, hp, va, sg, fu, ta, un, ln, v, vn, lt, by rw [e1, e2], e3, e4, e5⟩
theorem DK.pd0 {κ : Nat → Nat} (D : DK c li ra de h0 W κ h) {q : Nat} (hq : κ q ≠ 0) : q ≠ de := fun e => hq (by rw [e]; exact D.2.2.2.2.1.2.2.1)
theorem DP.putD (D : DP c li ra de h0 W p co h) (fr : Value) (at_ en fa pl mo : Int32) (hm : mo = 0 ∨ mo = 1) : DP c li ra de h0 W p co (hs h de (.inr (1, [.ref li, fr, .int at_, .int en, .int fa, .int pl, .int mo]))) := by
  obtain ⟨κ, D, hp, va, rest, hc⟩ := D
  exact ⟨κ, D.putD fr at_ en fa pl mo hm, hp, va, rest, by rw [hs_ne (D.pd0 (by omega))]; exact hc⟩
theorem DP.row (D : DP c li ra de h0 W p co h) (R : RW c h0 b ba f n) (o1 : W b) (o2 : W ba) : RW c h b ba f n := by
  obtain ⟨κ, D, hp, -⟩ := D
  exact D.row R o1 o2
theorem DE.set {a e : Int32} (D : DE c li ra de h0 W p co b a e h) {fa pl mo : Int32} (B : h de = some (.inr (1, [.ref li, .ref b, .int a, .int e, .int fa, .int pl, .int mo]))) (a' fa' pl' : Int32) : DE c li ra de h0 W p co b a' e (hs h de (.inr (1, [.ref li, .ref b, .int a', .int e, .int fa', .int pl', .int mo]))) := by
  obtain ⟨D, fa1, pl1, mo1, B1, hm⟩ := D
  rw [B] at B1
  simp only [Option.some.injEq, Sum.inr.injEq, Prod.mk.injEq, List.cons.injEq, Value.int.injEq, and_true, true_and] at B1
  obtain ⟨-, -, e1⟩ := B1
  subst e1
  exact ⟨D.putD _ _ _ _ _ _ hm, fa', pl', mo, hs_self .., hm⟩
/-- the Reading p written anew -/
theorem DE.rd {a e : Int32} (D : DE c li ra de h0 W p co b a e h) {g : PH} (G : DP c li ra de h0 W p co g) (hd : g de = h de) : DE c li ra de h0 W p co b a e g := by
  obtain ⟨D, fa1, pl1, mo1, B1, hm⟩ := D
  exact ⟨G, fa1, pl1, mo1, by rw [hd]; exact B1, hm⟩
theorem DK.pd {κ : Nat → Nat} (D : DK c li ra de h0 W κ h) {q : Nat} (hq : κ q ≠ 0) : de ≠ q := fun e => hq (by rw [← e]; exact D.2.2.2.2.1.2.2.1)
theorem q_setText (hW : Wc w c) (R : RW c h0 b ba f n) (hb : W b) (hba : W ba) (fr : Int32) (s : Nat) (hs3 : s ≤ 300) (aa ee : Int32) : T w gw yX3_setText cX3_setText 5 none 1 (40 * 1) 1 s [.ref p, .ref b, .int fr, .int (nI s)] (DE c li ra de h0 W p co b aa ee) (fun r g => r = none ∧ DE c li ra de h0 W p co b aa ee g) := by
  refine TA.intro hW rfl (by decide +kernel) (Nat.le_of_ble_eq_true rfl) (fun z C Y E hn h D => ?_)
  obtain ⟨t0, ht0⟩ := Y.2.1
  have T74 : ∀ (kc ks : Nat) (h : PH) (l4 : Option Value), DE c li ra de h0 W p co b aa ee h → X z kc ks (EQ h) 74 [some (.ref p), some (.ref b), some (.int fr), some (.int (nI s)), l4] [] := fun kc ks h l4 D => by
    have DD := D
    obtain ⟨κ, D, hp, va, sg, fu, ta, un, ln, v, vn, lt, B, v1, v2, v3⟩ := D.1.get
    refine x_aload_n C dX3_setText_74 rfl ?_
    refine x_iload_n C dX3_setText_75 rfl ?_
    refine e_put C Y kd_X3 9 (by decide) rfl wf_X3_41 dX3_setText_76 B (Nat.le_of_ble_eq_true rfl) rfl rfl rfl ?_
    refine x_aload_n C dX3_setText_79 rfl ?_
    refine x_iload_n C dX3_setText_80 rfl ?_
    refine x_i2l C dX3_setText_81 ?_
    refine e_put C Y kd_X3 0 (by decide) rfl wf_X3_9 dX3_setText_82 (hs_self ..) (Nat.le_of_ble_eq_true rfl) rfl rfl (hs_hs ..) ?_
    exact x_vret C E dX3_setText_85 (fun g e => ⟨rfl, by rw [e]; exact DD.rd ⟨κ, D.putRd hp ⟨_, sg, co, fu, ta, un, _, v, vn, lt, rfl, v1, v2, v3⟩, hp, _, _, hs_self ..⟩ (hs_ne (D.pd (by omega)))⟩)
  have LP : ∀ (r j : Nat) (h : PH), j + r = s → DE c li ra de h0 W p co b aa ee h → X z 0 0 (EQ h) 30 [some (.ref p), some (.ref b), some (.int fr), some (.int (nI s)), some (.int (nI j))] [] := by
    intro r
    induction r with
    | zero =>
      intro j h hj D
      obtain rfl : j = s := by omega
      refine x_iload C dX3_setText_30 rfl ?_
      refine x_iload_n C dX3_setText_32 rfl ?_
      exact x_icmp_ge (tgt := 74) C dX3_setText_33 (by decide) (fun _ => T74 0 0 h _ D) (fun q => absurd (Int32.le_refl _) q)
    | succ r ih =>
      intro j h hj D
      have D0 := D
      have DD := D
      obtain ⟨κ, D, hp, va, sg, fu, ta, un, ln, v, vn, lt, B, v1, v2, v3⟩ := D.1.get
      refine x_iload C dX3_setText_30 rfl ?_
      refine x_iload_n C dX3_setText_32 rfl ?_
      refine x_icmp_ge (tgt := 74) C dX3_setText_33 (by decide) (fun _ => T74 0 0 h _ D0) (fun _ => ?_)
      refine x_aload_n C dX3_setText_36 rfl ?_
      refine e_get C Y kd_X3 8 (by decide) wf_X3_38 dX3_setText_37 B rfl ?_
      rcases v3 with rfl | ⟨t, rfl, kt⟩
      · exact x_ifnullN (tgt := 74) C dX3_setText_40 (by decide) (T74 0 0 h _ D0)
      · obtain ⟨m, ft, m1, m2⟩ := D.lt kt
        refine x_ifnull C dX3_setText_40 ?_
        refine x_iload C dX3_setText_43 rfl ?_
        refine x_aload_n C dX3_setText_45 rfl ?_
        refine e_get C Y kd_X3 8 (by decide) wf_X3_38 dX3_setText_46 B rfl ?_
        refine x_alen C ht0 dX3_setText_49 (v := nI m) (fun q e => by rw [e]; exact m2) rfl ?_
        refine x_icmp_ge (tgt := 74) C dX3_setText_50 (by decide) (fun _ => T74 0 0 h _ D0) (fun c50 => ?_)
        have jm : j < m := (nI_ltI (by omega) (by omega)).mp (Int32.not_le.mp c50)
        have Rh := D.row R hb hba
        refine x_aload_n C dX3_setText_53 rfl ?_
        refine e_get C Y kd_X3 8 (by decide) wf_X3_38 dX3_setText_54 B rfl ?_
        refine x_iload C dX3_setText_57 rfl ?_
        refine x_aload_n C dX3_setText_59 rfl ?_
        refine x_iload_n C dX3_setText_60 rfl ?_
        refine x_iload C dX3_setText_61 rfl ?_
        refine x_iadd C dX3_setText_63 ?_
        refine u_callV (st := [.int (nI j), .ref t]) C Y hW E.cs (r_at hW Rh _) md_X5_at wi_X5_at ws_X5_at wm_X3_44 dX3_setText_64 rfl (by decide) (by decide) Rh.2.1 rfl rfl (by simp [Value.category]) ?_
        refine e_ist C Y dX3_setText_67 m2 (vp_in_nI jm (by omega)) rfl ?_
        refine o_iincE (v := nI (j + 1)) (L' := [some _, some _, some _, some _, some _]) C dX3_setText_68 rfl (nI_1 j) (by rw [hn]; decide) rfl ?_
        refine x_goto (tgt := 30) C dX3_setText_71 (by decide) ?_
        exact ih (j + 1) _ (by omega) (DD.rd ⟨κ, D.putLt kt m1 _, hp, va, _, by rw [hs_ne (fun e => by rw [e, kt] at hp; exact absurd hp (by decide))]; exact B⟩ (hs_ne (D.pd (by omega))))
  have T27 : ∀ (kc ks : Nat) (h : PH), DE c li ra de h0 W p co b aa ee h → X z kc ks (EQ h) 27 [some (.ref p), some (.ref b), some (.int fr), some (.int (nI s)), none] [] := fun kc ks h D => by
    refine x_iconst (v := 0) C dX3_setText_27 (by decide) ?_
    refine o_istoreE (L' := [some _, some _, some _, some _, some _]) C dX3_setText_28 (by rw [hn]; decide) rfl ?_
    exact (LP s 0 h (Nat.zero_add s) D).room (Nat.zero_le _) (Nat.zero_le _)
  have D0 := D
  have DD := D
  obtain ⟨κ, D, hp, va, sg, fu, ta, un, ln, v, vn, lt, B, v1, v2, v3⟩ := D.1.get
  have T20 : X z 1 s (EQ h) 20 [some (.ref p), some (.ref b), some (.int fr), some (.int (nI s)), none] [] := by
    refine x_aload_n C dX3_setText_20 rfl ?_
    refine x_iload_n C dX3_setText_21 rfl ?_
    refine X.room (kc' := 0 + 1) (ks' := 0 + s) ?_ (by omega) (by omega)
    refine e_newi (kc := 0) (ks := 0) (N := s) C Y dX3_setText_22 (nI_pos (by omega)) (nI_clamp (by omega)) (by omega) (fun q hq => ?_)
    have np : p ≠ q := fun e => by rw [e, hq] at B; exact nomatch B
    have Dn := D.new (k := 3) (e := .inl (c 0, s, .inl (fun _ => 0))) hq ⟨s, _, hs3, rfl⟩
    have nv : v ≠ q := fun e => by rw [e, D.fresh hq] at v1; exact nomatch v1
    refine e_put C Y kd_X3 8 (by decide) rfl wf_X3_38 dX3_setText_24 (by rw [hs_ne np]; exact B) (Nat.le_of_ble_eq_true rfl) rfl rfl rfl ?_
    have nd : de ≠ q := fun e => by
      obtain ⟨-, _, _, _, B9, -⟩ := DD
      rw [e, hq] at B9
      exact nomatch B9
    exact T27 0 0 _ (DD.rd ⟨va_up κ q 3, Dn.putRd (by rw [va_up_ne _ _ np]; exact hp) ⟨va, sg, co, fu, ta, un, ln, v, vn, .ref q, rfl, by rw [va_up_ne _ _ nv]; exact v1, v2, Or.inr ⟨q, rfl, va_up_self ..⟩⟩, by rw [va_up_ne _ _ np]; exact hp, _, _, hs_self ..⟩ (by rw [hs_ne (D.pd (by omega)), hs_ne nd]))
  refine x_iload_n C dX3_setText_0 rfl ?_
  refine x_if_le (tgt := 27) C dX3_setText_1 (by decide) (fun _ => T27 1 s h D0) (fun _ => ?_)
  refine x_aload_n C dX3_setText_4 rfl ?_
  refine e_get C Y kd_X3 8 (by decide) wf_X3_38 dX3_setText_5 B rfl ?_
  rcases v3 with rfl | ⟨t, rfl, kt⟩
  · exact x_ifnullN (tgt := 20) C dX3_setText_8 (by decide) T20
  · obtain ⟨m, ft, m1, m2⟩ := D.lt kt
    refine x_ifnull C dX3_setText_8 ?_
    refine x_aload_n C dX3_setText_11 rfl ?_
    refine e_get C Y kd_X3 8 (by decide) wf_X3_38 dX3_setText_12 B rfl ?_
    refine x_alen C ht0 dX3_setText_15 (v := nI m) (fun q e => by rw [e]; exact m2) rfl ?_
    refine x_iload_n C dX3_setText_16 rfl ?_
    exact x_icmp_ge (tgt := 27) C dX3_setText_17 (by decide) (fun _ => T27 1 s h D0) (fun _ => T20)
end Rd
