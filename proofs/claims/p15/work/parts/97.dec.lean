/-! Decoder: DIFEs, VIFs, numbers: it ends, and owns what it owned. -/
/-- well, and at lo or beyond; or not well -/
def RS (c : Nat → ClassId) (li ra de : Nat) (h0 : PH) (W : Nat → Prop) (p : Nat) (co : Int32) (b lo m : Nat) (r : Option Value) (g : PH) : Prop := (r = some (.int 1) ∧ ∃ i, lo ≤ i ∧ i ≤ m ∧ DE c li ra de h0 W p co b (nI i) (nI m) g) ∨ (r = some (.int 0) ∧ ∃ a, DE c li ra de h0 W p co b a (nI m) g)
/-- well, and just at pos; or not well -/
def RE (c : Nat → ClassId) (li ra de : Nat) (h0 : PH) (W : Nat → Prop) (p : Nat) (co : Int32) (b pos m : Nat) (r : Option Value) (g : PH) : Prop := (r = some (.int 1) ∧ pos ≤ m ∧ DE c li ra de h0 W p co b (nI pos) (nI m) g) ∨ (r = some (.int 0) ∧ ∃ a, DE c li ra de h0 W p co b a (nI m) g)
/-- behind the bytes that follow by bit 7 -/
def exD (f : Nat → Int32) : Nat → Int32 → Nat → Nat
  | 0, _, j => j
  | r + 1, la, j => if la &&& 128 = 0 then j else exD f r (f j) (j + 1)
section Dec
variable {w : Wd} {c : Nat → ClassId} {h h0 : PH} {li ra de p b ba n : Nat} {W : Nat → Prop} {f : Nat → Int32} {co : Int32}
theorem DE.setValue {a e : Int32} (D : DE c li ra de h0 W p co b a e h) {va sg : Int64} {fu ta un ln : Int32} {v : Nat} {vn lt : Value} (B : h p = some (.inr (3, [.long va, .int co, .int fu, .long sg, .int ta, .int un, .ref v, vn, lt, .int ln]))) (x : Int64) : DE c li ra de h0 W p co b a e (hs h p (.inr (3, [.long x, .int co, .int fu, .long sg, .int ta, .int un, .ref v, vn, lt, .int ln]))) := by
  obtain ⟨κ, Dk, hp, va1, sg1, fu1, ta1, un1, ln1, v1, vn1, lt1, B1, k1, k2, k3⟩ := D.1.get
  rw [B] at B1
  simp only [rdL, Option.some.injEq, Sum.inr.injEq, Prod.mk.injEq, List.cons.injEq, Value.int.injEq, Value.long.injEq, Value.ref.injEq, and_true, true_and] at B1
  obtain ⟨-, -, -, -, -, e1, e2, e3, -⟩ := B1
  subst e1; subst e2; subst e3
  exact D.rd ⟨κ, Dk.putRd hp ⟨x, sg, co, fu, ta, un, ln, v, vn1, lt, rfl, k1, k2, k3⟩, hp, _, _, hs_self ..⟩ (hs_ne (Dk.pd (by omega)))
theorem RE.no {a : Int32} {pos m : Nat} (D : DE c li ra de h0 W p co b a (nI m) h) : RE c li ra de h0 W p co b pos m (some (.int 0)) h := Or.inr ⟨rfl, _, D⟩
theorem RS.no {a : Int32} {lo m : Nat} (D : DE c li ra de h0 W p co b a (nI m) h) : RS c li ra de h0 W p co b lo m (some (.int 0)) h := Or.inr ⟨rfl, _, D⟩
theorem RS.yes {i lo m : Nat} (h1 : lo ≤ i) (h2 : i ≤ m) (D : DE c li ra de h0 W p co b (nI i) (nI m) h) : RS c li ra de h0 W p co b lo m (some (.int 1)) h := Or.inl ⟨rfl, i, h1, h2, D⟩
section There
variable {z : Fx} {cc : ByteArray} {kc ks pc : Nat} {L : List (Option Value)} {st : List Value} {lvl : Nat} {y : MethodName} {rt : Option FieldType}
/-- areThere, and what comes behind it -/
theorem k_there (C : Cx z RX1 cc gw) (Y : Cty z c) (hW : Wc w c) (E : Cs z w lvl (40 * lvl)) (hl : 1 < lvl) {i m s : Nat} (hi : i ≤ m) (hm : m ≤ 256) (hs3 : s ≤ 300) (D : DE c li ra de h0 W p co b (nI i) (nI m) h) (d : decode cc pc = .ok (.invokevirtual 117, 3)) (hcat : (st.map fun v => v.category).sum ≤ 8)
    (k1 : i + s ≤ m → X z kc ks (EQ h) (pc + 3) L (.int 1 :: st)) (k0 : ∀ g, DE c li ra de h0 W p co b (nI i) (nI m) g → X z kc ks (EQ g) (pc + 3) L (.int 0 :: st)) : X z kc ks (EQ h) pc L (.int (nI s) :: .ref de :: st) := by
  have D0 := D
  obtain ⟨-, fa, pl, mo, B, hm1⟩ := D0
  refine u_callV (st := st) C Y hW E (d_areThere hW B (nI s)) md_X1_areThere wi_X1_areThere ws_X1_areThere wm_X1_117 d rfl hl (by decide) B rfl rfl hcat ?_
  have e1 : (nI i + nI s ≤ nI m) ↔ i + s ≤ m := by
    rw [nI_add]
    exact ⟨fun g => Nat.le_of_not_lt (fun q => absurd (nI_lt q (by omega)) (Int32.not_lt.mpr g)), fun g => nI_le g (by omega)⟩
  by_cases g : i + s ≤ m
  · rw [if_pos (e1.mpr g), bI_t (e1.mpr g)]
    exact k1 g
  · rw [if_neg (fun q => g (e1.mp q)), bI_f (fun q => g (e1.mp q))]
    exact k0 _ (D.set B _ _ _)
/-- take, and what comes behind it -/
theorem k_take (C : Cx z RX1 cc gw) (Y : Cty z c) (hW : Wc w c) (E : Cs z w lvl (40 * lvl)) (hl : 1 < lvl) (R : RW c h0 b ba f n) (o1 : W b) (o2 : W ba) {a e : Int32} (D : DE c li ra de h0 W p co b a e h) (d : decode cc pc = .ok (.invokevirtual 85, 3)) (hcat : (st.map fun v => v.category).sum ≤ 8)
    (k : ∀ g, DE c li ra de h0 W p co b (a + 1) e g → X z kc ks (EQ g) (pc + 3) L (.int (rAt f n a) :: st)) : X z kc ks (EQ h) pc L (.ref de :: st) := by
  have D0 := D
  obtain ⟨-, fa, pl, mo, B, hm1⟩ := D0
  refine u_callV (st := st) C Y hW E (d_take hW B (D.1.row R o1 o2)) md_X1_take wi_X1_take ws_X1_take wm_X1_85 d rfl hl (by decide) B rfl rfl hcat ?_
  exact k _ (D.set B _ _ _)
/-- wrong, and what comes behind it -/
theorem k_wrong (C : Cx z RX1 cc gw) (Y : Cty z c) (hW : Wc w c) (E : Cs z w lvl (40 * lvl)) (hl : 0 < lvl) {a e x q : Int32} (D : DE c li ra de h0 W p co b a e h) (d : decode cc pc = .ok (.invokevirtual 67, 3)) (hcat : (st.map fun v => v.category).sum ≤ 8)
    (k : ∀ g, DE c li ra de h0 W p co b a e g → X z kc ks (EQ g) (pc + 3) L (.int 0 :: st)) : X z kc ks (EQ h) pc L (.int q :: .int x :: .ref de :: st) := by
  have D0 := D
  obtain ⟨-, fa, pl, mo, B, hm1⟩ := D0
  refine u_callV (st := st) C Y hW E (d_wrong hW B x q) md_X1_wrong wi_X1_wrong ws_X1_wrong wm_X1_67 d rfl hl (by decide) B rfl rfl hcat ?_
  exact k _ (D.set B _ _ _)
end There
theorem d_difes (hW : Wc w c) (R : RW c h0 b ba f n) (o1 : W b) (o2 : W ba) (x : Int32) {i m : Nat} (hi : i ≤ m) (hm : m ≤ 256) (hmn : m ≤ n) : T w gw yX1_readDifes cX1_readDifes 5 (some .boolean) 2 (40 * 2) 0 0 [.ref de, .ref p, .int x] (DE c li ra de h0 W p co b (nI i) (nI m)) (RE c li ra de h0 W p co b (exD f 11 x i) m) := by
  refine TA.intro hW rfl (by decide +kernel) (Nat.le_of_ble_eq_true rfl) (fun z C Y E hn h D => ?_)
  have T65 : ∀ (h : PH) (j : Nat) (l3 l4 : Option Value), exD f 11 x i = j → j ≤ m → DE c li ra de h0 W p co b (nI j) (nI m) h → X z 0 0 (EQ h) 65 [some (.ref de), some (.ref p), some (.int x), l3, l4] [] := fun h j l3 l4 h1 h2 D => by
    refine x_iconst (v := 1) C dX1_readDifes_65 (by decide) ?_
    exact x_zret C E dX1_readDifes_66 (by decide) (fun g e => by subst e; exact Or.inl ⟨rfl, by rw [h1]; exact h2, by rw [h1]; exact D⟩)
  have LP : ∀ (r k j : Nat) (la : Int32) (h : PH), k + r = 11 → exD f 11 x i = exD f r la j → j ≤ m → DE c li ra de h0 W p co b (nI j) (nI m) h → X z 0 0 (EQ h) 5 [some (.ref de), some (.ref p), some (.int x), some (.int la), some (.int (nI k))] [] := by
    intro r
    induction r with
    | zero =>
      intro k j la h hk h1 h2 D
      obtain rfl : k = 11 := by omega
      refine x_iload C dX1_readDifes_5 rfl ?_
      refine x_bipush (v := 10) C dX1_readDifes_7 (by decide) ?_
      exact x_icmp_gt (tgt := 65) C dX1_readDifes_9 (by decide) (fun _ => T65 h j _ _ h1 h2 D) (fun q => absurd (by decide) q)
    | succ r ih =>
      intro k j la h hk h1 h2 D
      refine x_iload C dX1_readDifes_5 rfl ?_
      refine x_bipush (v := 10) C dX1_readDifes_7 (by decide) ?_
      refine x_icmp_gt (tgt := 65) C dX1_readDifes_9 (by decide) (fun q => absurd q (Int32.not_lt.mpr (nI_le (show k ≤ 10 by omega) (by decide)))) (fun _ => ?_)
      refine x_iload_n C dX1_readDifes_12 rfl ?_
      refine x_sipush (v := 128) C dX1_readDifes_13 (by decide) ?_
      refine x_iand C dX1_readDifes_16 ?_
      refine x_if_eq (tgt := 65) C dX1_readDifes_17 (by decide) (fun q => T65 h j _ _ (by rw [h1]; exact if_pos q) h2 D) (fun q17 => ?_)
      refine x_aload_n C dX1_readDifes_20 rfl ?_
      refine x_iconst (v := 1) C dX1_readDifes_21 (by decide) ?_
      refine k_there (s := 1) (st := []) C Y hW E.cs (by decide) h2 hm (by decide) D dX1_readDifes_22 (by decide) (fun hj1 => ?_) (fun g Dg => ?_)
      · refine x_if_ne (tgt := 30) C dX1_readDifes_25 (by decide) (fun _ => ?_) (fun q => absurd q (by decide))
        refine x_iload C dX1_readDifes_30 rfl ?_
        refine x_bipush (v := 10) C dX1_readDifes_32 (by decide) ?_
        refine x_icmp_ne (tgt := 47) C dX1_readDifes_34 (by decide) (fun _ => ?_) (fun _ => ?_)
        · refine x_aload_n C dX1_readDifes_47 rfl ?_
          refine k_take (st := []) C Y hW E.cs (by decide) R o1 o2 D dX1_readDifes_48 (by decide) (fun g Dg => ?_)
          rw [nI_1] at Dg
          refine o_istore_nE (L' := [some _, some _, some _, some _, some _]) C dX1_readDifes_51 (by rw [hn]; decide) rfl ?_
          refine x_aload_n C dX1_readDifes_52 rfl ?_
          refine x_iload C dX1_readDifes_53 rfl ?_
          refine x_iload_n C dX1_readDifes_55 rfl ?_
          obtain ⟨κ, Dk, hp, va, sg, fu, ta, un, ln, v, vn, lt, B, v1, v2, v3⟩ := Dg.1.get
          refine k_callV (kc := 0) (ks := 0) (mc' := 0) (ms' := 0) (st := []) C E.cs hW.1 gw_good (q_addDife hW B _ _) md_X3_addDife wi_X3_addDife ws_X3_addDife wm_X1_120 dX1_readDifes_56 rfl (by decide) (by decide) (fun q e => by rw [e]; exact B) (by rw [Y.1]; rfl) rfl (by decide) (fun r => X.opn (fun g2 hg => ?_))
          obtain ⟨rfl, sg', ta', un', e2⟩ := hg
          have D2 : DE c li ra de h0 W p co b (nI (j + 1)) (nI m) g2 := by
            rw [e2]
            exact Dg.rd ⟨κ, Dk.putRd hp ⟨va, sg', co, fu, ta', un', ln, v, vn, lt, rfl, v1, v2, v3⟩, hp, _, _, hs_self ..⟩ (hs_ne (Dk.pd (by omega)))
          refine o_iincE (v := nI (k + 1)) (L' := [some _, some _, some _, some _, some _]) C dX1_readDifes_59 rfl (nI_1 k) (by rw [hn]; decide) rfl ?_
          refine x_goto (tgt := 5) C dX1_readDifes_62 (by decide) ?_
          rw [rAt_in (by omega) R.2.2.2]
          exact ih (k + 1) (j + 1) _ g2 (by omega) (by rw [h1]; exact if_neg q17) hj1 D2
        · obtain ⟨-, fa, pl, mo, B, hm1⟩ := id D
          refine x_aload_n C dX1_readDifes_37 rfl ?_
          refine x_iconst (v := 5) C dX1_readDifes_38 (by decide) ?_
          refine x_aload_n C dX1_readDifes_39 rfl ?_
          refine e_get C Y kd_X1 2 (by decide) wf_X1_9 dX1_readDifes_40 B rfl ?_
          refine k_wrong (st := []) C Y hW E.cs (by decide) D dX1_readDifes_43 (by decide) (fun g Dg => ?_)
          exact x_zret C E dX1_readDifes_46 (by decide) (fun q e => by subst e; exact RE.no Dg)
      · refine x_if_ne (tgt := 30) C dX1_readDifes_25 (by decide) (fun q => absurd rfl q) (fun _ => ?_)
        refine x_iconst (v := 0) C dX1_readDifes_28 (by decide) ?_
        exact x_zret C E dX1_readDifes_29 (by decide) (fun q e => by subst e; exact RE.no Dg)
  refine x_iload_n C dX1_readDifes_0 rfl ?_
  refine o_istore_nE (L' := [some _, some _, some _, some _, none]) C dX1_readDifes_1 (by rw [hn]; decide) rfl ?_
  refine x_iconst (v := 0) C dX1_readDifes_2 (by decide) ?_
  refine o_istoreE (L' := [some _, some _, some _, some _, some _]) C dX1_readDifes_3 (by rw [hn]; decide) rfl ?_
  exact LP 11 0 i x h rfl rfl hi D
end Dec
