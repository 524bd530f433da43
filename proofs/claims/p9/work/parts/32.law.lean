section
/-! The law's own methods, over a MeterBus and a model of one state. -/
section ZV
variable {c : Nat → ClassId} {a : Nat → Nat} {h9 : PH} {V : Nat → Prop} {α : Nat → Int64} {f : Nat → Option Nat} {κ κd ω ωd : Nat → Nat} {S : MS} {h g : PH}
theorem ZZ.base (Z : ZZ c a h9 V α f κ κd h) : ZZ c a h V α f κ κd h := by
  obtain ⟨z1, z2, z3, z4, z5, z6, z7, z8, z9⟩ := Z
  exact ⟨z1, z2, z3, z4, z5, z6, z7, z8, fun q hq => by obtain ⟨x1, x2, x3, x4, x5⟩ := z9 q hq; exact ⟨x1, x2, x3, by rw [x5]; exact x4, rfl⟩⟩
theorem ZZ.st (Z : ZZ c a h9 V α f κ κd h) {q : Nat} (hq : V q) : h q = h9 q := (Z.2.2.2.2.2.2.2.2 q hq).2.2.2.2
theorem ZZ.na (Z : ZZ c a h9 V α f κ κd h) {q : Nat} (hq : V q) : κ q = 0 ∧ κd q = 0 ∧ ∀ i, i ≤ 10 → q ≠ a i := ⟨(Z.2.2.2.2.2.2.2.2 q hq).1, (Z.2.2.2.2.2.2.2.2 q hq).2.1, (Z.2.2.2.2.2.2.2.2 q hq).2.2.1⟩
/-- what is not the class's may be written -/
theorem ZZ.putV {g : PH} (Z : ZZ c a h9 V α f κ κd h) (e : ∀ q, ¬ V q → g q = h q) (n : ∀ q, V q → g q ≠ none) : ZZ c a g V α f κ κd g := by
  have nv : ∀ i, i ≤ 10 → ¬ V (a i) := fun i hi hv => (Z.na hv).2.2 i hi rfl
  have ea : ∀ i, i ≤ 10 → g (a i) = h (a i) := fun i hi => e _ (nv i hi)
  obtain ⟨z1, ⟨gr, nr, ⟨r1, r2, r3, r4⟩, hb⟩, z3, z4, z5, z6, z7, z8, z9⟩ := id Z
  refine ⟨by rw [ea 0 (by omega)]; exact z1, ⟨gr, nr, ⟨r1, by rw [ea 1 (by omega)]; exact r2, by rw [ea 2 (by omega)]; exact r3, r4⟩, hb⟩, by rw [ea 10 (by omega)]; exact z3, z4.move (fun q hq => ?_), z5.move (fun q hq => ?_), z6, z7, z8, fun q hq => ?_⟩
  · rcases hq with rfl | rfl | rfl | rfl | hq
    · exact ea 3 (by omega)
    · exact ea 4 (by omega)
    · exact ea 5 (by omega)
    · exact ea 6 (by omega)
    · exact e q (fun hv => hq (Z.na hv).1)
  · rcases hq with rfl | rfl | rfl | hq
    · exact ea 7 (by omega)
    · exact ea 8 (by omega)
    · exact ea 9 (by omega)
    · exact e q (fun hv => hq (Z.na hv).2.1)
  · obtain ⟨x1, x2, x3, -⟩ := z9 q hq
    exact ⟨x1, x2, x3, n q hq, rfl⟩
theorem ZI.base (Z : ZI c a h9 V α f κ κd ω ωd S h) : ZI c a h V α f κ κd ω ωd S h := ⟨Z.1.base, Z.2⟩
/-- what is not the class's may be written -/
theorem ZI.putV (Z : ZI c a h9 V α f κ κd ω ωd S h) (e : ∀ q, ¬ V q → g q = h q) (n : ∀ q, V q → g q ≠ none) : ZI c a g V α f κ κd ω ωd S g := by
  obtain ⟨z1, z2, z3, z4, z5, z6, z7, z8⟩ := Z
  have ea : ∀ i, i ≤ 10 → g (a i) = h (a i) := fun i hi => e _ (fun hv => (z1.na hv).2.2 i hi rfl)
  refine ⟨z1.putV e n, z2, z3, z4.same (fun q hq => e q (fun hv => z4.1 q hq (z1.na hv).1)) (fun _ _ _ => rfl), ?_, z6.go (ea 1 (by omega)) (ea 2 (by omega)) rfl (fun _ => rfl), z7.go (ea 0 (by omega)) (ea 10 (by omega)) rfl (fun _ => rfl), z8.go (ea 7 (by omega)) (ea 8 (by omega)) (fun q hq => e q (fun hv => z8.1 q hq (z1.na hv).2.1)) (LSx.rf S)⟩
  rw [EU, ea 3 (by omega)]
  exact z5
end ZV
/-- behind a call of the law's own methods -/
def LX (c : Nat → ClassId) (a : Nat → Nat) (V : Nat → Prop) (o : Nat) (S : MS) (h g : PH) : Prop := (∃ f1, OU c o f1 g) ∧ ZQ c a g V S g ∧ ∀ q, V q → q ≠ o → g q = h q
section Law
variable {w : Wd} {c : Nat → ClassId} {a : Nat → Nat} {V : Nat → Prop} {α : Nat → Int64} {f : Nat → Option Nat} {κ κd ω ωd : Nat → Nat} {S S' : MS} {h : PH} {o : Nat} {f0 : Nat → Int64}
theorem ZQ.at {g : PH} (hV : V o) (Z : ZQ c a h V S' g) : g o = h o := by
  obtain ⟨-, α, f, κ, κd, ω, ωd, Z⟩ := Z
  exact Z.1.st hV
theorem LX.of {g : PH} (ho : OU c o f0 h) (hV : V o) (Z : ZQ c a h V S' g) : LX c a V o S' h g := by
  have e := Z.at hV
  obtain ⟨hS, α, f, κ, κd, ω, ωd, Z⟩ := Z
  exact ⟨⟨f0, by show g o = _; rw [e]; exact ho⟩, ⟨hS, α, f, κ, κd, ω, ωd, Z.base⟩, fun q hq _ => Z.1.st hq⟩
theorem LX.put {g : PH} (hV : V o) (Z : ZQ c a h V S' g) (f1 : Nat → Int64) : LX c a V o S' h (hs g o (.inl (c 1, 1, .inr (.inl f1)))) := by
  obtain ⟨hS, α, f, κ, κd, ω, ωd, Z⟩ := Z
  refine ⟨⟨f1, hs_self ..⟩, ⟨hS, α, f, κ, κd, ω, ωd, Z.putV (fun q hq => hs_ne (fun e => hq (by rw [e]; exact hV))) (fun q hq => ?_)⟩, fun q hq n => by rw [hs_ne n]; exact Z.1.st hq⟩
  by_cases e : q = o
  · subst e; rw [hs_self]; exact nofun
  · rw [hs_ne e, Z.1.st hq]; exact (Z.1.2.2.2.2.2.2.2.2 q hq).2.2.2.1
theorem l6_type (hX : Wx w c) (hS : MH S) (Z : ZI c a h V α f κ κd ω ωd S h) (ho : OU c o f0 h) (hV : V o) (b : Int64) (n : Int32) : TW w gw yL_type cL_type 6 (some .int) hL_type 9 (40 * 9) 1 6 [.ref (a 0), .long b, .int n, .ref o] (EQ h) (fun r g => ∃ (kv : Int32) (mv : Int32) (S' : MS), r = some (.int kv) ∧ (∀ M, Wm w M → TF w M yX7_type cX7_type 5 (some .int) 1 [.long b, .int n] S (some (.int mv)) S') ∧ S'.i 0 = kv ∧ (kv = 0 → ∃ f1, OU c o f1 g ∧ f1 0 = mv.toInt64) ∧ LX c a V o S' h g) := by
  have hW := hX.1
  have Bx := Z.x
  refine TW.intro (by decide +kernel) (Nat.le_of_ble_eq_true rfl) (fun z C E tb hn => ?_)
  have Y := Cty.of hW E.cs
  refine x_aload C dL_type_0 rfl ?_
  refine x_iconst (v := 0) C dL_type_2 (by decide) ?_
  refine x_aload_n C dL_type_3 rfl ?_
  refine x_lload_n C dL_type_4 rfl ?_
  refine x_iload_n C dL_type_5 rfl ?_
  refine x_callVX (kc := 0) (ks := 0) (st := [.int 0, .ref o]) C E.cs hX.1.1 gw_good (zy_type hX hS Z b n) md_X6_type wi_X6_type ws_X6_type wm_L_7 dL_type_6 rfl (by decide) (by decide) (fun g e => by rw [e]; exact Bx) (by rw [Y.1]; rfl) rfl (by simp [Value.category]) (fun En => ?_) (fun r => X.opn (fun g hg => ?_))
  · by_cases e : En = IAE
    · subst e
      refine x_catch (name := IAE) C [] ⟨0, 11, 14, 13⟩ [⟨0, 11, 18, 15⟩] (by rw [tb]; rfl) (fun q hq => nomatch hq) (by decide) (by decide) wc_L_13 ((E.cs.gx hX).2.2.1 _ exs_IAE) (fun q => X.opn (fun g hg => ?_))
      obtain ⟨v9, S9, mt, hc, Zg⟩ := hg
      have e0 : S9.i 0 = 1 := hc.elim (fun y => y.2) (fun y => absurd y.1 (by decide))
      refine o_astoreE C dL_type_14 (by rw [hn]; decide) rfl ?_
      refine x_iconst (v := 1) C dL_type_16 (by decide) ?_
      exact x_iret C E dL_type_17 (fun g9 e => ⟨_, v9, S9, rfl, mt, e0, fun q => absurd q (by decide), by rw [show g9 = g from e]; exact LX.of ho hV Zg⟩)
    by_cases e2 : En = UOE
    · subst e2
      refine x_catch (name := UOE) C [⟨0, 11, 14, 13⟩] ⟨0, 11, 18, 15⟩ [] (by rw [tb]; rfl) (fun q hq => by rw [List.mem_singleton.mp hq]; exact Or.inr ⟨by decide, IAE, wc_L_13, (E.cs.gx hX).2.2.2.1 _ exs_UOE _ exs_IAE (by decide)⟩) (by decide) (by decide) wc_L_15 ((E.cs.gx hX).2.2.1 _ exs_UOE) (fun q => X.opn (fun g hg => ?_))
      obtain ⟨v9, S9, mt, hc, Zg⟩ := hg
      have e0 : S9.i 0 = 2 := hc.elim (fun y => absurd y.1 (by decide)) (fun y => y.2)
      refine o_astoreE C dL_type_18 (by rw [hn]; decide) rfl ?_
      refine x_iconst (v := 2) C dL_type_20 (by decide) ?_
      exact x_iret C E dL_type_21 (fun g9 e => ⟨_, v9, S9, rfl, mt, e0, fun q => absurd q (by decide), by rw [show g9 = g from e]; exact LX.of ho hV Zg⟩)
    exact Xc.no (fun g hg => by obtain ⟨v9, S9, mt, hc, -⟩ := hg; exact hc.elim (fun y => e y.1) (fun y => e2 y.1))
  · obtain ⟨v9, S9, rfl, mt, e0, Zg⟩ := hg
    refine x_i2l C dL_type_9 ?_
    refine e_lst C Y dL_type_10 (by rw [Zg.at hV]; exact ho) (vp_in_nI (n := 0) (N := 1) (by decide) (by decide)) ?_
    refine x_goto (tgt := 22) C dL_type_11 (by decide) ?_
    refine x_iconst (v := 0) C dL_type_22 (by decide) ?_
    exact x_iret C E dL_type_23 (fun g9 e => ⟨_, v9, S9, rfl, mt, e0, fun _ => ⟨vp_updL f0 (Int32.toNatClampNeg 0) v9.toInt64, by rw [show g9 = _ from e]; exact hs_self .., rfl⟩, by rw [show g9 = _ from e]; exact LX.put hV Zg _⟩)
theorem l6_keep (hX : Wx w c) (hS : MH S) (Z : ZI c a h V α f κ κd ω ωd S h) (ho : OU c o f0 h) (hV : V o) (n : Int32) : TW w gw yL_keep cL_keep 3 (some .int) hL_keep 9 (40 * 9) 1 6 [.ref (a 0), .int n] (EQ h) (fun r g => ∃ (kv : Int32) (S' : MS), r = some (.int kv) ∧ (∀ M, Wm w M → TF w M yX7_keep cX7_keep 2 none 1 [.int n] S none S') ∧ S'.i 0 = kv ∧ LX c a V o S' h g) := by
  have hW := hX.1
  have Bx := Z.x
  refine TW.intro (by decide +kernel) (Nat.le_of_ble_eq_true rfl) (fun z C E tb hn => ?_)
  have Y := Cty.of hW E.cs
  refine x_aload_n C dL_keep_0 rfl ?_
  refine x_iload_n C dL_keep_1 rfl ?_
  refine x_callVX (kc := 0) (ks := 0) (st := []) C E.cs hX.1.1 gw_good (zy_keep hX hS Z n) md_X6_keep wi_X6_keep ws_X6_keep wm_L_17 dL_keep_2 rfl (by decide) (by decide) (fun g e => by rw [e]; exact Bx) (by rw [Y.1]; rfl) rfl (by simp [Value.category]) (fun En => ?_) (fun r => X.opn (fun g hg => ?_))
  · by_cases e : En = IAE
    · subst e
      refine x_catch (name := IAE) C [] ⟨0, 5, 8, 13⟩ [] (by rw [tb]; rfl) (fun q hq => nomatch hq) (by decide) (by decide) wc_L_13 ((E.cs.gx hX).2.2.1 _ exs_IAE) (fun q => X.opn (fun g hg => ?_))
      obtain ⟨S9, mt, ⟨-, e0⟩, Zg⟩ := hg
      refine o_astore_nE C dL_keep_8 (by rw [hn]; decide) rfl ?_
      refine x_iconst (v := 1) C dL_keep_9 (by decide) ?_
      exact x_iret C E dL_keep_10 (fun g9 e => ⟨_, S9, rfl, mt, e0, by rw [show g9 = g from e]; exact LX.of ho hV Zg⟩)
    · exact Xc.no (fun g hg => by obtain ⟨S9, mt, ⟨e9, -⟩, -⟩ := hg; exact e e9)
  · obtain ⟨rfl, S9, mt, e0, Zg⟩ := hg
    refine x_goto (tgt := 11) C dL_keep_5 (by decide) ?_
    refine x_iconst (v := 0) C dL_keep_11 (by decide) ?_
    exact x_iret C E dL_keep_12 (fun g9 e => ⟨_, S9, rfl, mt, e0, by rw [show g9 = _ from e]; exact LX.of ho hV Zg⟩)
theorem l6_typed (hX : Wx w c) (hS : MH S) (Z : ZI c a h V α f κ κd ω ωd S h) (ho : OU c o f0 h) (hV : V o) (i : Int32) : TW w gw yL_typed cL_typed 4 (some .int) hL_typed 9 (40 * 9) 1 6 [.ref (a 0), .int i, .ref o] (EQ h) (fun r g => ∃ (kv : Int32) (mv : Int32) (S' : MS), r = some (.int kv) ∧ (∀ M, Wm w M → TF w M yX7_typed cX7_typed 2 (some .int) 1 [.int i] S (some (.int mv)) S') ∧ S'.i 0 = kv ∧ (kv = 0 → ∃ f1, OU c o f1 g ∧ f1 0 = mv.toInt64) ∧ LX c a V o S' h g) := by
  have hW := hX.1
  have Bx := Z.x
  refine TW.intro (by decide +kernel) (Nat.le_of_ble_eq_true rfl) (fun z C E tb hn => ?_)
  have Y := Cty.of hW E.cs
  refine x_aload_n C dL_typed_0 rfl ?_
  refine x_iconst (v := 0) C dL_typed_1 (by decide) ?_
  refine x_aload_n C dL_typed_2 rfl ?_
  refine x_iload_n C dL_typed_3 rfl ?_
  refine x_callVX (kc := 0) (ks := 0) (st := [.int 0, .ref o]) C E.cs hX.1.1 gw_good (zy_typed hX hS Z i) md_X6_typed wi_X6_typed ws_X6_typed wm_L_21 dL_typed_4 rfl (by decide) (by decide) (fun g e => by rw [e]; exact Bx) (by rw [Y.1]; rfl) rfl (by simp [Value.category]) (fun En => ?_) (fun r => X.opn (fun g hg => ?_))
  · by_cases e : En = IOE
    · subst e
      refine x_catch (name := IOE) C [] ⟨0, 9, 12, 25⟩ [] (by rw [tb]; rfl) (fun q hq => nomatch hq) (by decide) (by decide) wc_L_25 ((E.cs.gx hX).2.2.1 _ exs_IOE) (fun q => X.opn (fun g hg => ?_))
      obtain ⟨v9, S9, mt, ⟨-, e0⟩, Zg⟩ := hg
      refine o_astore_nE C dL_typed_12 (by rw [hn]; decide) rfl ?_
      refine x_iconst (v := 1) C dL_typed_13 (by decide) ?_
      exact x_iret C E dL_typed_14 (fun g9 e => ⟨_, v9, S9, rfl, mt, e0, fun q => absurd q (by decide), by rw [show g9 = g from e]; exact LX.of ho hV Zg⟩)
    · exact Xc.no (fun g hg => by obtain ⟨v9, S9, mt, ⟨e9, -⟩, -⟩ := hg; exact e e9)
  · obtain ⟨v9, S9, rfl, mt, e0, Zg⟩ := hg
    refine x_i2l C dL_typed_7 ?_
    refine e_lst C Y dL_typed_8 (by rw [Zg.at hV]; exact ho) (vp_in_nI (n := 0) (N := 1) (by decide) (by decide)) ?_
    refine x_goto (tgt := 15) C dL_typed_9 (by decide) ?_
    refine x_iconst (v := 0) C dL_typed_15 (by decide) ?_
    exact x_iret C E dL_typed_16 (fun g9 e => ⟨_, v9, S9, rfl, mt, e0, fun _ => ⟨vp_updL f0 (Int32.toNatClampNeg 0) v9.toInt64, by rw [show g9 = _ from e]; exact hs_self .., rfl⟩, by rw [show g9 = _ from e]; exact LX.put hV Zg _⟩)
theorem l6_meter (hX : Wx w c) (hS : MH S) (Z : ZI c a h V α f κ κd ω ωd S h) (ho : OU c o f0 h) (hV : V o) (k : Int32) (ad : Int32) (i : Int32) (mk : Int32) (v : Int32) (d : Int32) : TW w gw yL_meter cL_meter 8 (some .int) hL_meter 9 (40 * 9) 6 194 [.ref (a 0), .int k, .int ad, .int i, .int mk, .int v, .int d] (EQ h) (fun r g => ∃ (kv : Int32) (S' : MS), r = some (.int kv) ∧ (∀ M, Wm w M → TF w M yX7_meter cX7_meter 11 none 1 [.int k, .int ad, .int i, .int mk, .int v, .int d] S none S') ∧ S'.i 0 = kv ∧ LX c a V o S' h g) := by
  have hW := hX.1
  have Bx := Z.x
  refine TW.intro (by decide +kernel) (Nat.le_of_ble_eq_true rfl) (fun z C E tb hn => ?_)
  have Y := Cty.of hW E.cs
  refine x_aload_n C dL_meter_0 rfl ?_
  refine x_iload_n C dL_meter_1 rfl ?_
  refine x_iload_n C dL_meter_2 rfl ?_
  refine x_iload_n C dL_meter_3 rfl ?_
  refine x_iload C dL_meter_4 rfl ?_
  refine x_iload C dL_meter_6 rfl ?_
  refine x_iload C dL_meter_8 rfl ?_
  refine x_callVX (kc := 0) (ks := 0) (st := []) C E.cs hX.1.1 gw_good (zy_meter hX hS Z k ad i mk v d) md_X6_meter wi_X6_meter ws_X6_meter wm_L_27 dL_meter_10 rfl (by decide) (by decide) (fun g e => by rw [e]; exact Bx) (by rw [Y.1]; rfl) rfl (by simp [Value.category]) (fun En => ?_) (fun r => X.opn (fun g hg => ?_))
  · by_cases e : En = IOE
    · subst e
      refine x_catch (name := IOE) C [] ⟨0, 13, 16, 25⟩ [⟨0, 13, 20, 13⟩] (by rw [tb]; rfl) (fun q hq => nomatch hq) (by decide) (by decide) wc_L_25 ((E.cs.gx hX).2.2.1 _ exs_IOE) (fun q => X.opn (fun g hg => ?_))
      obtain ⟨S9, mt, hc, Zg⟩ := hg
      have e0 : S9.i 0 = 1 := hc.elim (fun y => y.2) (fun y => absurd y.1 (by decide))
      refine o_astoreE C dL_meter_16 (by rw [hn]; decide) rfl ?_
      refine x_iconst (v := 1) C dL_meter_18 (by decide) ?_
      exact x_iret C E dL_meter_19 (fun g9 e => ⟨_, S9, rfl, mt, e0, by rw [show g9 = g from e]; exact LX.of ho hV Zg⟩)
    by_cases e2 : En = IAE
    · subst e2
      refine x_catch (name := IAE) C [⟨0, 13, 16, 25⟩] ⟨0, 13, 20, 13⟩ [] (by rw [tb]; rfl) (fun q hq => by rw [List.mem_singleton.mp hq]; exact Or.inr ⟨by decide, IOE, wc_L_25, (E.cs.gx hX).2.2.2.1 _ exs_IAE _ exs_IOE (by decide)⟩) (by decide) (by decide) wc_L_13 ((E.cs.gx hX).2.2.1 _ exs_IAE) (fun q => X.opn (fun g hg => ?_))
      obtain ⟨S9, mt, hc, Zg⟩ := hg
      have e0 : S9.i 0 = 2 := hc.elim (fun y => absurd y.1 (by decide)) (fun y => y.2)
      refine o_astoreE C dL_meter_20 (by rw [hn]; decide) rfl ?_
      refine x_iconst (v := 2) C dL_meter_22 (by decide) ?_
      exact x_iret C E dL_meter_23 (fun g9 e => ⟨_, S9, rfl, mt, e0, by rw [show g9 = g from e]; exact LX.of ho hV Zg⟩)
    exact Xc.no (fun g hg => by obtain ⟨S9, mt, hc, -⟩ := hg; exact hc.elim (fun y => e y.1) (fun y => e2 y.1))
  · obtain ⟨rfl, S9, mt, e0, Zg⟩ := hg
    refine x_goto (tgt := 24) C dL_meter_13 (by decide) ?_
    refine x_iconst (v := 0) C dL_meter_24 (by decide) ?_
    exact x_iret C E dL_meter_25 (fun g9 e => ⟨_, S9, rfl, mt, e0, by rw [show g9 = _ from e]; exact LX.of ho hV Zg⟩)
theorem l6_remove (hX : Wx w c) (hS : MH S) (Z : ZI c a h V α f κ κd ω ωd S h) (ho : OU c o f0 h) (hV : V o) (k : Int32) : TW w gw yL_remove cL_remove 4 (some .int) hL_remove 9 (40 * 9) 1 6 [.ref (a 0), .int k, .ref o] (EQ h) (fun r g => ∃ (kv : Int32) (mv : Int32) (S' : MS), r = some (.int kv) ∧ (∀ M, Wm w M → TF w M yX7_remove cX7_remove 3 (some .boolean) 1 [.int k] S (some (.int mv)) S') ∧ S'.i 0 = kv ∧ (kv = 0 → ∃ f1, OU c o f1 g ∧ f1 0 = if mv = 0 then 0 else 1) ∧ LX c a V o S' h g) := by
  have hW := hX.1
  have Bx := Z.x
  refine TW.intro (by decide +kernel) (Nat.le_of_ble_eq_true rfl) (fun z C E tb hn => ?_)
  have Y := Cty.of hW E.cs
  refine x_aload_n C dL_remove_0 rfl ?_
  refine x_iconst (v := 0) C dL_remove_1 (by decide) ?_
  refine x_aload_n C dL_remove_2 rfl ?_
  refine x_iload_n C dL_remove_3 rfl ?_
  refine x_callVX (kc := 0) (ks := 0) (st := [.int 0, .ref o]) C E.cs hX.1.1 gw_good (zy_remove hX hS Z k) md_X6_remove wi_X6_remove ws_X6_remove wm_L_31 dL_remove_4 rfl (by decide) (by decide) (fun g e => by rw [e]; exact Bx) (by rw [Y.1]; rfl) rfl (by simp [Value.category]) (fun En => ?_) (fun r => X.opn (fun g hg => ?_))
  · by_cases e : En = IOE
    · subst e
      refine x_catch (name := IOE) C [] ⟨0, 16, 19, 25⟩ [] (by rw [tb]; rfl) (fun q hq => nomatch hq) (by decide) (by decide) wc_L_25 ((E.cs.gx hX).2.2.1 _ exs_IOE) (fun q => X.opn (fun g hg => ?_))
      obtain ⟨v9, S9, mt, ⟨-, e0⟩, Zg⟩ := hg
      refine o_astore_nE C dL_remove_19 (by rw [hn]; decide) rfl ?_
      refine x_iconst (v := 1) C dL_remove_20 (by decide) ?_
      exact x_iret C E dL_remove_21 (fun g9 e => ⟨_, v9, S9, rfl, mt, e0, fun q => absurd q (by decide), by rw [show g9 = g from e]; exact LX.of ho hV Zg⟩)
    · exact Xc.no (fun g hg => by obtain ⟨v9, S9, mt, ⟨e9, -⟩, -⟩ := hg; exact e e9)
  · obtain ⟨v9, S9, rfl, v01, mt, e0, Zg⟩ := hg
    have T15 : ∀ (L : List (Option Value)) (x : Int64), x = (if v9 = 0 then 0 else 1) → X z 0 0 (EQ g) 15 L [.long x, .int 0, .ref o] := fun L x ex => by
      refine e_lst C Y dL_remove_15 (by rw [Zg.at hV]; exact ho) (vp_in_nI (n := 0) (N := 1) (by decide) (by decide)) ?_
      refine x_goto (tgt := 22) C dL_remove_16 (by decide) ?_
      refine x_iconst (v := 0) C dL_remove_22 (by decide) ?_
      exact x_iret C E dL_remove_23 (fun g9 e => ⟨_, v9, S9, rfl, mt, e0, fun _ => ⟨vp_updL f0 (Int32.toNatClampNeg 0) x, by rw [show g9 = _ from e]; exact hs_self .., by rw [← ex]; rfl⟩, by rw [show g9 = _ from e]; exact LX.put hV Zg _⟩)
    refine x_if_eq (tgt := 14) C dL_remove_7 (by decide) (fun q7 => ?_) (fun q7 => ?_)
    · exact x_lconst (v := 0) C dL_remove_14 (by decide) (T15 _ _ (by rw [if_pos q7]))
    · refine x_lconst (v := 1) C dL_remove_10 (by decide) ?_
      exact x_goto (tgt := 15) C dL_remove_11 (by decide) (T15 _ _ (by rw [if_neg q7]))
theorem l6_page (hX : Wx w c) (hS : MH S) (Z : ZI c a h V α f κ κd ω ωd S h) (ho : OU c o f0 h) (hV : V o) (k : Int32) (i : Int32) : TW w gw yL_page cL_page 5 (some .int) hL_page 9 (40 * 9) 1 6 [.ref (a 0), .int k, .int i, .ref o] (EQ h) (fun r g => ∃ (kv : Int32) (mv : Int32) (S' : MS), r = some (.int kv) ∧ (∀ M, Wm w M → TF w M yX7_page cX7_page 4 (some .int) 2 [.int k, .int i] S (some (.int mv)) S') ∧ S'.i 0 = kv ∧ (kv = 0 → ∃ f1, OU c o f1 g ∧ f1 0 = mv.toInt64) ∧ LX c a V o S' h g) := by
  have hW := hX.1
  have Bx := Z.x
  refine TW.intro (by decide +kernel) (Nat.le_of_ble_eq_true rfl) (fun z C E tb hn => ?_)
  have Y := Cty.of hW E.cs
  refine x_aload_n C dL_page_0 rfl ?_
  refine x_iconst (v := 0) C dL_page_1 (by decide) ?_
  refine x_aload_n C dL_page_2 rfl ?_
  refine x_iload_n C dL_page_3 rfl ?_
  refine x_iload_n C dL_page_4 rfl ?_
  refine x_callVX (kc := 0) (ks := 0) (st := [.int 0, .ref o]) C E.cs hX.1.1 gw_good (zy_page hX hS Z k i) md_X6_page wi_X6_page ws_X6_page wm_L_35 dL_page_5 rfl (by decide) (by decide) (fun g e => by rw [e]; exact Bx) (by rw [Y.1]; rfl) rfl (by simp [Value.category]) (fun En => ?_) (fun r => X.opn (fun g hg => ?_))
  · by_cases e : En = IOE
    · subst e
      refine x_catch (name := IOE) C [] ⟨0, 10, 13, 25⟩ [⟨0, 10, 17, 15⟩] (by rw [tb]; rfl) (fun q hq => nomatch hq) (by decide) (by decide) wc_L_25 ((E.cs.gx hX).2.2.1 _ exs_IOE) (fun q => X.opn (fun g hg => ?_))
      obtain ⟨v9, S9, mt, hc, Zg⟩ := hg
      have e0 : S9.i 0 = 1 := hc.elim (fun y => y.2) (fun y => absurd y.1 (by decide))
      refine o_astoreE C dL_page_13 (by rw [hn]; decide) rfl ?_
      refine x_iconst (v := 1) C dL_page_15 (by decide) ?_
      exact x_iret C E dL_page_16 (fun g9 e => ⟨_, v9, S9, rfl, mt, e0, fun q => absurd q (by decide), by rw [show g9 = g from e]; exact LX.of ho hV Zg⟩)
    by_cases e2 : En = UOE
    · subst e2
      refine x_catch (name := UOE) C [⟨0, 10, 13, 25⟩] ⟨0, 10, 17, 15⟩ [] (by rw [tb]; rfl) (fun q hq => by rw [List.mem_singleton.mp hq]; exact Or.inr ⟨by decide, IOE, wc_L_25, (E.cs.gx hX).2.2.2.1 _ exs_UOE _ exs_IOE (by decide)⟩) (by decide) (by decide) wc_L_15 ((E.cs.gx hX).2.2.1 _ exs_UOE) (fun q => X.opn (fun g hg => ?_))
      obtain ⟨v9, S9, mt, hc, Zg⟩ := hg
      have e0 : S9.i 0 = 2 := hc.elim (fun y => absurd y.1 (by decide)) (fun y => y.2)
      refine o_astoreE C dL_page_17 (by rw [hn]; decide) rfl ?_
      refine x_iconst (v := 2) C dL_page_19 (by decide) ?_
      exact x_iret C E dL_page_20 (fun g9 e => ⟨_, v9, S9, rfl, mt, e0, fun q => absurd q (by decide), by rw [show g9 = g from e]; exact LX.of ho hV Zg⟩)
    exact Xc.no (fun g hg => by obtain ⟨v9, S9, mt, hc, -⟩ := hg; exact hc.elim (fun y => e y.1) (fun y => e2 y.1))
  · obtain ⟨v9, S9, rfl, mt, e0, Zg⟩ := hg
    refine x_i2l C dL_page_8 ?_
    refine e_lst C Y dL_page_9 (by rw [Zg.at hV]; exact ho) (vp_in_nI (n := 0) (N := 1) (by decide) (by decide)) ?_
    refine x_goto (tgt := 21) C dL_page_10 (by decide) ?_
    refine x_iconst (v := 0) C dL_page_21 (by decide) ?_
    exact x_iret C E dL_page_22 (fun g9 e => ⟨_, v9, S9, rfl, mt, e0, fun _ => ⟨vp_updL f0 (Int32.toNatClampNeg 0) v9.toInt64, by rw [show g9 = _ from e]; exact hs_self .., rfl⟩, by rw [show g9 = _ from e]; exact LX.put hV Zg _⟩)
theorem l6_state (hX : Wx w c) (hS : MH S) (Z : ZI c a h V α f κ κd ω ωd S h) (ho : OU c o f0 h) (hV : V o) (k : Int32) (x : Int32) : TW w gw yL_state cL_state 5 (some .int) hL_state 9 (40 * 9) 1 6 [.ref (a 0), .int k, .int x, .ref o] (EQ h) (fun r g => ∃ (kv : Int32) (mv : Int32) (S' : MS), r = some (.int kv) ∧ (∀ M, Wm w M → TF w M yX7_state cX7_state 3 (some .int) 1 [.int k, .int x] S (some (.int mv)) S') ∧ S'.i 0 = kv ∧ (kv = 0 → ∃ f1, OU c o f1 g ∧ f1 0 = mv.toInt64) ∧ LX c a V o S' h g) := by
  have hW := hX.1
  have Bx := Z.x
  refine TW.intro (by decide +kernel) (Nat.le_of_ble_eq_true rfl) (fun z C E tb hn => ?_)
  have Y := Cty.of hW E.cs
  refine x_aload_n C dL_state_0 rfl ?_
  refine x_iconst (v := 0) C dL_state_1 (by decide) ?_
  refine x_aload_n C dL_state_2 rfl ?_
  refine x_iload_n C dL_state_3 rfl ?_
  refine x_iload_n C dL_state_4 rfl ?_
  refine x_callVX (kc := 0) (ks := 0) (st := [.int 0, .ref o]) C E.cs hX.1.1 gw_good (zy_state hX hS Z k x) md_X6_state wi_X6_state ws_X6_state wm_L_39 dL_state_5 rfl (by decide) (by decide) (fun g e => by rw [e]; exact Bx) (by rw [Y.1]; rfl) rfl (by simp [Value.category]) (fun En => ?_) (fun r => X.opn (fun g hg => ?_))
  · by_cases e : En = IOE
    · subst e
      refine x_catch (name := IOE) C [] ⟨0, 10, 13, 25⟩ [] (by rw [tb]; rfl) (fun q hq => nomatch hq) (by decide) (by decide) wc_L_25 ((E.cs.gx hX).2.2.1 _ exs_IOE) (fun q => X.opn (fun g hg => ?_))
      obtain ⟨v9, S9, mt, ⟨-, e0⟩, Zg⟩ := hg
      refine o_astoreE C dL_state_13 (by rw [hn]; decide) rfl ?_
      refine x_iconst (v := 1) C dL_state_15 (by decide) ?_
      exact x_iret C E dL_state_16 (fun g9 e => ⟨_, v9, S9, rfl, mt, e0, fun q => absurd q (by decide), by rw [show g9 = g from e]; exact LX.of ho hV Zg⟩)
    · exact Xc.no (fun g hg => by obtain ⟨v9, S9, mt, ⟨e9, -⟩, -⟩ := hg; exact e e9)
  · obtain ⟨v9, S9, rfl, mt, e0, Zg⟩ := hg
    refine x_i2l C dL_state_8 ?_
    refine e_lst C Y dL_state_9 (by rw [Zg.at hV]; exact ho) (vp_in_nI (n := 0) (N := 1) (by decide) (by decide)) ?_
    refine x_goto (tgt := 17) C dL_state_10 (by decide) ?_
    refine x_iconst (v := 0) C dL_state_17 (by decide) ?_
    exact x_iret C E dL_state_18 (fun g9 e => ⟨_, v9, S9, rfl, mt, e0, fun _ => ⟨vp_updL f0 (Int32.toNatClampNeg 0) v9.toInt64, by rw [show g9 = _ from e]; exact hs_self .., rfl⟩, by rw [show g9 = _ from e]; exact LX.put hV Zg _⟩)
theorem l6_found (hX : Wx w c) (hS : MH S) (Z : ZI c a h V α f κ κd ω ωd S h) (ho : OU c o f0 h) (hV : V o) (k : Int32) (i : Int32) : TW w gw yL_found cL_found 5 (some .int) hL_found 9 (40 * 9) 1 6 [.ref (a 0), .int k, .int i, .ref o] (EQ h) (fun r g => ∃ (kv : Int32) (mv : Int32) (S' : MS), r = some (.int kv) ∧ (∀ M, Wm w M → TF w M yX7_found cX7_found 3 (some .int) 1 [.int k, .int i] S (some (.int mv)) S') ∧ S'.i 0 = kv ∧ (kv = 0 → ∃ f1, OU c o f1 g ∧ f1 0 = mv.toInt64) ∧ LX c a V o S' h g) := by
  have hW := hX.1
  have Bx := Z.x
  refine TW.intro (by decide +kernel) (Nat.le_of_ble_eq_true rfl) (fun z C E tb hn => ?_)
  have Y := Cty.of hW E.cs
  refine x_aload_n C dL_found_0 rfl ?_
  refine x_iconst (v := 0) C dL_found_1 (by decide) ?_
  refine x_aload_n C dL_found_2 rfl ?_
  refine x_iload_n C dL_found_3 rfl ?_
  refine x_iload_n C dL_found_4 rfl ?_
  refine x_callVX (kc := 0) (ks := 0) (st := [.int 0, .ref o]) C E.cs hX.1.1 gw_good (zy_found hX hS Z k i) md_X6_found wi_X6_found ws_X6_found wm_L_42 dL_found_5 rfl (by decide) (by decide) (fun g e => by rw [e]; exact Bx) (by rw [Y.1]; rfl) rfl (by simp [Value.category]) (fun En => ?_) (fun r => X.opn (fun g hg => ?_))
  · by_cases e : En = IOE
    · subst e
      refine x_catch (name := IOE) C [] ⟨0, 10, 13, 25⟩ [] (by rw [tb]; rfl) (fun q hq => nomatch hq) (by decide) (by decide) wc_L_25 ((E.cs.gx hX).2.2.1 _ exs_IOE) (fun q => X.opn (fun g hg => ?_))
      obtain ⟨v9, S9, mt, ⟨-, e0⟩, Zg⟩ := hg
      refine o_astoreE C dL_found_13 (by rw [hn]; decide) rfl ?_
      refine x_iconst (v := 1) C dL_found_15 (by decide) ?_
      exact x_iret C E dL_found_16 (fun g9 e => ⟨_, v9, S9, rfl, mt, e0, fun q => absurd q (by decide), by rw [show g9 = g from e]; exact LX.of ho hV Zg⟩)
    · exact Xc.no (fun g hg => by obtain ⟨v9, S9, mt, ⟨e9, -⟩, -⟩ := hg; exact e e9)
  · obtain ⟨v9, S9, rfl, mt, e0, Zg⟩ := hg
    refine x_i2l C dL_found_8 ?_
    refine e_lst C Y dL_found_9 (by rw [Zg.at hV]; exact ho) (vp_in_nI (n := 0) (N := 1) (by decide) (by decide)) ?_
    refine x_goto (tgt := 17) C dL_found_10 (by decide) ?_
    refine x_iconst (v := 0) C dL_found_17 (by decide) ?_
    exact x_iret C E dL_found_18 (fun g9 e => ⟨_, v9, S9, rfl, mt, e0, fun _ => ⟨vp_updL f0 (Int32.toNatClampNeg 0) v9.toInt64, by rw [show g9 = _ from e]; exact hs_self .., rfl⟩, by rw [show g9 = _ from e]; exact LX.put hV Zg _⟩)
theorem l6_readOut (hX : Wx w c) (hS : MH S) (Z : ZI c a h V α f κ κd ω ωd S h) (ho : OU c o f0 h) (hV : V o) (k : Int32) : TW w gw yL_readOut cL_readOut 4 (some .int) hL_readOut 9 (40 * 9) 1050 8040 [.ref (a 0), .int k, .ref o] (EQ h) (fun r g => ∃ (kv : Int32) (mv : Int32) (S' : MS), r = some (.int kv) ∧ (∀ M, Wm w M → TF w M yX7_readOut cX7_readOut 4 (some .int) 5 [.int k] S (some (.int mv)) S') ∧ S'.i 0 = kv ∧ True ∧ LX c a V o S' h g) := by
  have hW := hX.1
  have Bx := Z.x
  refine TW.intro (by decide +kernel) (Nat.le_of_ble_eq_true rfl) (fun z C E tb hn => ?_)
  have Y := Cty.of hW E.cs
  refine x_aload_n C dL_readOut_0 rfl ?_
  refine x_iconst (v := 0) C dL_readOut_1 (by decide) ?_
  refine x_aload_n C dL_readOut_2 rfl ?_
  refine x_iload_n C dL_readOut_3 rfl ?_
  refine x_callVX (kc := 0) (ks := 0) (st := [.int 0, .ref o]) C E.cs hX.1.1 gw_good (zy_readOut hX hS Z k) md_X6_readOut wi_X6_readOut ws_X6_readOut wm_L_45 dL_readOut_4 rfl (by decide) (by decide) (fun g e => by rw [e]; exact Bx) (by rw [Y.1]; rfl) rfl (by simp [Value.category]) (fun En => ?_) (fun r => X.opn (fun g hg => ?_))
  · by_cases e : En = IOE
    · subst e
      refine x_catch (name := IOE) C [] ⟨0, 9, 12, 25⟩ [] (by rw [tb]; rfl) (fun q hq => nomatch hq) (by decide) (by decide) wc_L_25 ((E.cs.gx hX).2.2.1 _ exs_IOE) (fun q => X.opn (fun g hg => ?_))
      obtain ⟨v9, S9, mt, ⟨-, e0⟩, Zg⟩ := hg
      refine o_astore_nE C dL_readOut_12 (by rw [hn]; decide) rfl ?_
      refine x_iconst (v := 1) C dL_readOut_13 (by decide) ?_
      exact x_iret C E dL_readOut_14 (fun g9 e => ⟨_, v9, S9, rfl, mt, e0, trivial, by rw [show g9 = g from e]; exact LX.of ho hV Zg⟩)
    · exact Xc.no (fun g hg => by obtain ⟨v9, S9, mt, ⟨e9, -⟩, -⟩ := hg; exact e e9)
  · obtain ⟨v9, mv9, S9, rfl, mt, e0, Zg⟩ := hg
    refine x_i2l C dL_readOut_7 ?_
    refine e_lst C Y dL_readOut_8 (by rw [Zg.at hV]; exact ho) (vp_in_nI (n := 0) (N := 1) (by decide) (by decide)) ?_
    refine x_goto (tgt := 15) C dL_readOut_9 (by decide) ?_
    refine x_iconst (v := 0) C dL_readOut_15 (by decide) ?_
    exact x_iret C E dL_readOut_16 (fun g9 e => ⟨_, mv9, S9, rfl, mt, e0, trivial, by rw [show g9 = _ from e]; exact LX.put hV Zg _⟩)
theorem l6_record (hX : Wx w c) (hS : MH S) (Z : ZI c a h V α f κ κd ω ωd S h) (ho : OU c o f0 h) (hV : V o) (k : Int32) (i : Int32) : TW w gw yL_record cL_record 5 (some .int) hL_record 9 (40 * 9) 1 6 [.ref (a 0), .int k, .int i, .ref o] (EQ h) (fun r g => ∃ (kv : Int32) (mv : Int64) (S' : MS), r = some (.int kv) ∧ (∀ M, Wm w M → TF w M yX7_record cX7_record 4 (some .long) 1 [.int k, .int i] S (some (.long mv)) S') ∧ S'.i 0 = kv ∧ (kv = 0 → ∃ f1, OU c o f1 g ∧ f1 0 = mv) ∧ LX c a V o S' h g) := by
  have hW := hX.1
  have Bx := Z.x
  refine TW.intro (by decide +kernel) (Nat.le_of_ble_eq_true rfl) (fun z C E tb hn => ?_)
  have Y := Cty.of hW E.cs
  refine x_aload_n C dL_record_0 rfl ?_
  refine x_iconst (v := 0) C dL_record_1 (by decide) ?_
  refine x_aload_n C dL_record_2 rfl ?_
  refine x_iload_n C dL_record_3 rfl ?_
  refine x_iload_n C dL_record_4 rfl ?_
  refine x_callVX (kc := 0) (ks := 0) (st := [.int 0, .ref o]) C E.cs hX.1.1 gw_good (zy_record hX hS Z k i) md_X6_record wi_X6_record ws_X6_record wm_L_48 dL_record_5 rfl (by decide) (by decide) (fun g e => by rw [e]; exact Bx) (by rw [Y.1]; rfl) rfl (by simp [Value.category]) (fun En => ?_) (fun r => X.opn (fun g hg => ?_))
  · by_cases e : En = IOE
    · subst e
      refine x_catch (name := IOE) C [] ⟨0, 9, 12, 25⟩ [] (by rw [tb]; rfl) (fun q hq => nomatch hq) (by decide) (by decide) wc_L_25 ((E.cs.gx hX).2.2.1 _ exs_IOE) (fun q => X.opn (fun g hg => ?_))
      obtain ⟨v9, S9, mt, ⟨-, e0⟩, Zg⟩ := hg
      refine o_astoreE C dL_record_12 (by rw [hn]; decide) rfl ?_
      refine x_iconst (v := 1) C dL_record_14 (by decide) ?_
      exact x_iret C E dL_record_15 (fun g9 e => ⟨_, v9, S9, rfl, mt, e0, fun q => absurd q (by decide), by rw [show g9 = g from e]; exact LX.of ho hV Zg⟩)
    · exact Xc.no (fun g hg => by obtain ⟨v9, S9, mt, ⟨e9, -⟩, -⟩ := hg; exact e e9)
  · obtain ⟨v9, S9, rfl, mt, e0, Zg⟩ := hg
    refine e_lst C Y dL_record_8 (by rw [Zg.at hV]; exact ho) (vp_in_nI (n := 0) (N := 1) (by decide) (by decide)) ?_
    refine x_goto (tgt := 16) C dL_record_9 (by decide) ?_
    refine x_iconst (v := 0) C dL_record_16 (by decide) ?_
    exact x_iret C E dL_record_17 (fun g9 e => ⟨_, v9, S9, rfl, mt, e0, fun _ => ⟨vp_updL f0 (Int32.toNatClampNeg 0) v9, by rw [show g9 = _ from e]; exact hs_self .., rfl⟩, by rw [show g9 = _ from e]; exact LX.put hV Zg _⟩)
theorem l6_text (hX : Wx w c) (hS : MH S) (Z : ZI c a h V α f κ κd ω ωd S h) (ho : OU c o f0 h) (hV : V o) (k : Int32) (i : Int32) : TW w gw yL_text cL_text 5 (some .int) hL_text 9 (40 * 9) 1 6 [.ref (a 0), .int k, .int i, .ref o] (EQ h) (fun r g => ∃ (kv : Int32) (mv : Int32) (S' : MS), r = some (.int kv) ∧ (∀ M, Wm w M → TF w M yX7_text cX7_text 4 (some .int) 1 [.int k, .int i] S (some (.int mv)) S') ∧ S'.i 0 = kv ∧ (kv = 0 → ∃ f1, OU c o f1 g ∧ f1 0 = mv.toInt64) ∧ LX c a V o S' h g) := by
  have hW := hX.1
  have Bx := Z.x
  refine TW.intro (by decide +kernel) (Nat.le_of_ble_eq_true rfl) (fun z C E tb hn => ?_)
  have Y := Cty.of hW E.cs
  refine x_aload_n C dL_text_0 rfl ?_
  refine x_iconst (v := 0) C dL_text_1 (by decide) ?_
  refine x_aload_n C dL_text_2 rfl ?_
  refine x_iload_n C dL_text_3 rfl ?_
  refine x_iload_n C dL_text_4 rfl ?_
  refine x_callVX (kc := 0) (ks := 0) (st := [.int 0, .ref o]) C E.cs hX.1.1 gw_good (zy_text hX hS Z k i) md_X6_text wi_X6_text ws_X6_text wm_L_52 dL_text_5 rfl (by decide) (by decide) (fun g e => by rw [e]; exact Bx) (by rw [Y.1]; rfl) rfl (by simp [Value.category]) (fun En => ?_) (fun r => X.opn (fun g hg => ?_))
  · by_cases e : En = IOE
    · subst e
      refine x_catch (name := IOE) C [] ⟨0, 10, 13, 25⟩ [] (by rw [tb]; rfl) (fun q hq => nomatch hq) (by decide) (by decide) wc_L_25 ((E.cs.gx hX).2.2.1 _ exs_IOE) (fun q => X.opn (fun g hg => ?_))
      obtain ⟨v9, S9, mt, ⟨-, e0⟩, Zg⟩ := hg
      refine o_astoreE C dL_text_13 (by rw [hn]; decide) rfl ?_
      refine x_iconst (v := 1) C dL_text_15 (by decide) ?_
      exact x_iret C E dL_text_16 (fun g9 e => ⟨_, v9, S9, rfl, mt, e0, fun q => absurd q (by decide), by rw [show g9 = g from e]; exact LX.of ho hV Zg⟩)
    · exact Xc.no (fun g hg => by obtain ⟨v9, S9, mt, ⟨e9, -⟩, -⟩ := hg; exact e e9)
  · obtain ⟨v9, S9, rfl, mt, e0, Zg⟩ := hg
    refine x_i2l C dL_text_8 ?_
    refine e_lst C Y dL_text_9 (by rw [Zg.at hV]; exact ho) (vp_in_nI (n := 0) (N := 1) (by decide) (by decide)) ?_
    refine x_goto (tgt := 17) C dL_text_10 (by decide) ?_
    refine x_iconst (v := 0) C dL_text_17 (by decide) ?_
    exact x_iret C E dL_text_18 (fun g9 e => ⟨_, v9, S9, rfl, mt, e0, fun _ => ⟨vp_updL f0 (Int32.toNatClampNeg 0) v9.toInt64, by rw [show g9 = _ from e]; exact hs_self .., rfl⟩, by rw [show g9 = _ from e]; exact LX.put hV Zg _⟩)
theorem l6_count (hX : Wx w c) (hS : MH S) (Z : ZI c a h V α f κ κd ω ωd S h) (ho : OU c o f0 h) (hV : V o) (x : Int32) : TW w gw yL_count cL_count 4 (some .int) hL_count 9 (40 * 9) 1 6 [.ref (a 0), .int x, .ref o] (EQ h) (fun r g => ∃ (kv : Int32) (mv : Int32) (S' : MS), r = some (.int kv) ∧ (∀ M, Wm w M → TF w M yX7_count cX7_count 4 (some .int) 1 [.int x] S (some (.int mv)) S') ∧ S'.i 0 = kv ∧ (kv = 0 → ∃ f1, OU c o f1 g ∧ f1 0 = mv.toInt64) ∧ LX c a V o S' h g) := by
  have hW := hX.1
  have Bx := Z.x
  refine TW.intro (by decide +kernel) (Nat.le_of_ble_eq_true rfl) (fun z C E tb hn => ?_)
  have Y := Cty.of hW E.cs
  refine x_aload_n C dL_count_0 rfl ?_
  refine x_iconst (v := 0) C dL_count_1 (by decide) ?_
  refine x_aload_n C dL_count_2 rfl ?_
  refine x_iload_n C dL_count_3 rfl ?_
  refine x_callVX (kc := 0) (ks := 0) (st := [.int 0, .ref o]) C E.cs hX.1.1 gw_good (zy_count hX hS Z x) md_X6_count wi_X6_count ws_X6_count wm_L_55 dL_count_4 rfl (by decide) (by decide) (fun g e => by rw [e]; exact Bx) (by rw [Y.1]; rfl) rfl (by simp [Value.category]) (fun En => ?_) (fun r => X.opn (fun g hg => ?_))
  · by_cases e : En = IOE
    · subst e
      refine x_catch (name := IOE) C [] ⟨0, 9, 12, 25⟩ [] (by rw [tb]; rfl) (fun q hq => nomatch hq) (by decide) (by decide) wc_L_25 ((E.cs.gx hX).2.2.1 _ exs_IOE) (fun q => X.opn (fun g hg => ?_))
      obtain ⟨v9, S9, mt, ⟨-, e0⟩, Zg⟩ := hg
      refine o_astore_nE C dL_count_12 (by rw [hn]; decide) rfl ?_
      refine x_iconst (v := 1) C dL_count_13 (by decide) ?_
      exact x_iret C E dL_count_14 (fun g9 e => ⟨_, v9, S9, rfl, mt, e0, fun q => absurd q (by decide), by rw [show g9 = g from e]; exact LX.of ho hV Zg⟩)
    · exact Xc.no (fun g hg => by obtain ⟨v9, S9, mt, ⟨e9, -⟩, -⟩ := hg; exact e e9)
  · obtain ⟨v9, S9, rfl, mt, e0, Zg⟩ := hg
    refine x_i2l C dL_count_7 ?_
    refine e_lst C Y dL_count_8 (by rw [Zg.at hV]; exact ho) (vp_in_nI (n := 0) (N := 1) (by decide) (by decide)) ?_
    refine x_goto (tgt := 15) C dL_count_9 (by decide) ?_
    refine x_iconst (v := 0) C dL_count_15 (by decide) ?_
    exact x_iret C E dL_count_16 (fun g9 e => ⟨_, v9, S9, rfl, mt, e0, fun _ => ⟨vp_updL f0 (Int32.toNatClampNeg 0) v9.toInt64, by rw [show g9 = _ from e]; exact hs_self .., rfl⟩, by rw [show g9 = _ from e]; exact LX.put hV Zg _⟩)
end Law
end
section
/-! The law of p9: its rows, its invariant, its cases. -/
section Rows
variable {z : Fx} {kc ks pc : Nat} {A : PH → Prop} {L : List (Option Value)} {st : List Value} {w : Wd} {b Ln : Nat} {xs : Nat → Int32} {h : PH}
/-- the law's frame -/
def LZ (z : Fx) (b : Nat) : Prop := z.R = room_1 ∧ z.args = #[.ref b] ∧ z.base = z.s.heap.size ∧ z.nL = 8 ∧ z.mc = 601024 ∧ z.ms = 7293034 ∧ z.Q = lw_Z z.below #[.ref b] z.s ∧ z.meth.sig.returnType = ret ∧ z.meth.locks = false ∧ b < z.s.heap.size
theorem w_sld (C : Cx z RL code gw) (hz : LZ z b) (hX : va_X b Ln xs z.s z.s.heap) (d : decode code pc = .ok (.iaload, 1)) {i : Int32} (hin : vp_in i Ln) (kk : X z kc ks A (pc + 1) L (.int (xs i.toNatClampNeg) :: st)) : X z kc ks A pc L (.int i :: .ref b :: st) := by
  intro H locs ls cells slots hp hS hl c1 c2
  have h1 := hz.2.2.1
  have h2 := hz.2.2.2.2.2.2.2.2.2
  exact va_sld C.x C.b hX h2 (by show ¬ z.base ≤ b; omega) hS hin d (kk H locs ls cells slots hp hS hl c1 c2)
theorem w_slen (C : Cx z RL code gw) (hz : LZ z b) (hX : va_X b Ln xs z.s z.s.heap) (d : decode code pc = .ok (.arraylength, 1)) (kk : X z kc ks A (pc + 1) L (.int (nI Ln) :: st)) : X z kc ks A pc L (.ref b :: st) := by
  intro H locs ls cells slots hp hS hl c1 c2
  have h1 := hz.2.2.1
  have h2 := hz.2.2.2.2.2.2.2.2.2
  exact va_slen C.x C.b hX h2 (by show ¬ z.base ≤ b; omega) hS d (kk H locs ls cells slots hp hS hl c1 c2)
theorem w_ret (C : Cx z RL code gw) (hz : LZ z b) (d : decode code pc = .ok (.ireturn, 1)) : X z kc ks A pc L [.int 1] := by
  intro H locs ls cells slots hp hS hl c1 c2
  obtain ⟨h1, h2, h3, h4, h5, h6, h7, h8, h9, h10⟩ := hz
  refine va_forget (fun q hq => by have := hS.2.2 q hq; rw [h3] at this; exact this) ?_
  refine W.widen (k := 601024) (n := 7293034) (by omega) (by omega) ?_
  show W z.p z.l z.e z.R z.s z.m z.args z.below z.meth z.c H [] 601024 7293034 z.Q (F0 z.m pc ls [.int 1])
  rw [h1, h2, h7]
  exact lw_ret C.x C.b h8 h9 d
theorem w_callM (C : Cx z RL code gw) (E : Cs z w 2048 84000) (hcl : z.cl = vwCl) {M : MW} {S S' : MS} (hW : Wm w M) {y' : MethodName} {cc' : ByteArray} {n' np index lvl' : Nat} {rt' : Option FieldType} {As stk : List Value} {r : Option Value} (Mc : TF w M y' cc' n' rt' lvl' As S r S') (hy : y'.cls = RX7) (md : Md gw y' cc' n' rt' np) (wi : Cond.instanceMethod y' ∈ gw) (wse : Cond.selects y'.cls y' y' ∈ gw) (wl : Cond.methodLink RL index y' ∈ gw) (d : decode code pc = .ok (.invokevirtual index, 3)) (hn : As.length = np) (hf : lvl' < 50) (hlo : n' ≤ 21)
    (hst : stk = As.reverse ++ .ref M.o :: st) (hcat : (st.map fun v => v.category).sum ≤ 8)
    (k : X z kc ks (MA M S') (pc + 3) L (r.toList ++ st)) : X z kc ks (MA M S) pc L stk := by
  refine k_callV (mc' := 0) (ms' := 0) C E hW.1 gw_good Mc md wi wse wl d hn (by omega) (by omega) (fun h g => g.1) (by rw [hcl, hy]; rfl) hst hcat (fun q => ?_)
  refine X.pure (p := q = r) (fun _ g => by obtain ⟨S2, e, -⟩ := g; exact e.1) (fun e => ?_)
  subst e
  exact X.heap k (fun h g => by obtain ⟨S2, ⟨-, e⟩, g⟩ := g; subst e; exact g)
theorem w_lald (C : Cx z RL code gw) {c : Nat → ClassId} (Y : Cty z c) (d : decode code pc = .ok (.laload, 1)) {a n : Nat} {f : Nat → Int64} {i : Int32} (g : ∀ h, A h → h a = some (.inl (c 1, n, .inr (.inl f)))) (gi : vp_in i n)
    (kk : X z kc ks A (pc + 1) L (.long (f i.toNatClampNeg) :: st)) : X z kc ks A pc L (.int i :: .ref a :: st) := by
  obtain ⟨t, ht⟩ := Y.2.2.1
  exact x_lald C ht d g gi kk
end Rows
theorem vp_s {t n L : Nat} (h : 7 * t + n < L) (hL : L ≤ 3584) : vp_in (nI (7 * t) + nI n) L := by
  rw [nI_add]
  exact vp_in_nI h (by omega)
/-- the law's own: its long[1], the model's object and arrays -/
def VV (o : Nat) (ad : Nat → Nat) (u q : Nat) : Prop := q = u ∨ q = o ∨ ∃ k, m_kd k ≠ 0 ∧ q = ad k
/-- a MeterBus (places a) and a model (object o, arrays ad) of one state, the law's long[1] at u, at any time -/
def LJ (c : Nat → ClassId) (a : Nat → Nat) (o : Nat) (ad : Nat → Nat) (u : Nat) (h : PH) : Prop :=
  ∃ S : MS, ZQ c a h (VV o ad u) S h ∧ (∃ f1, OU c u f1 h) ∧ MA (c, o, ad, h) S h ∧ MW.ok (c, o, ad, h) ∧ u ≠ o ∧ ∀ k, m_kd k ≠ 0 → ad k ≠ u
section Inv
variable {c : Nat → ClassId} {a ad : Nat → Nat} {o u : Nat} {h g g' : PH} {w : Wd} {S S' : MS}
theorem LX.ma (q : LX c a (VV o ad u) u S' h g) (m : MA (c, o, ad, h) S h) (n1 : u ≠ o) (n2 : ∀ k, m_kd k ≠ 0 → ad k ≠ u) : MA (c, o, ad, g) S g := by
  obtain ⟨-, -, st⟩ := q
  refine ⟨?_, fun k hk => ?_, fun q _ _ => rfl⟩
  · show g o = _
    rw [st o (Or.inr (Or.inl rfl)) (Ne.symm n1)]
    exact m.1
  · show g (ad k) = _
    rw [st (ad k) (Or.inr (Or.inr ⟨k, hk, rfl⟩)) (n2 k hk)]
    exact m.2.1 k hk
theorem LJ.of (q : LX c a (VV o ad u) u S' h g) (ok : MW.ok (c, o, ad, h)) (n1 : u ≠ o) (n2 : ∀ k, m_kd k ≠ 0 → ad k ≠ u) (m : MA (c, o, ad, g) S' g') : LJ c a o ad u g' := by
  obtain ⟨⟨f1, hu⟩, ⟨hS, α, f, κ, κd, ω, ωd, Z⟩, st⟩ := q
  have eu : g' u = g u := m.2.2 u n1 (fun k hk e => n2 k hk e.symm)
  have mo : g' o = some (.inr (7, m_fs ad S')) := m.1
  have ma : ∀ k, m_kd k ≠ 0 → g' (ad k) = some (m_cell c S' k) := m.2.1
  refine ⟨S', ⟨hS, α, f, κ, κd, ω, ωd, Z.putV (fun q hq => m.2.2 q (fun e => hq (Or.inr (Or.inl e))) (fun k hk e => hq (Or.inr (Or.inr ⟨k, hk, e⟩)))) (fun q hq => ?_)⟩, ⟨f1, by show g' u = _; rw [eu]; exact hu⟩, ⟨mo, ma, fun q _ _ => rfl⟩, ok, n1, n2⟩
  rcases hq with rfl | rfl | ⟨k, hk, rfl⟩
  · rw [eu]
    exact nn_of hu
  · exact nn_of mo
  · exact nn_of (ma k hk)
end Inv
theorem cmp_self (x : Int64) : lg_cmp x x = 0 := by simp [lg_cmp]
/-- what is known at the law's loop, one call ahead (the t-th) -/
def LC5 (w : Wd) (c : Nat → ClassId) (z : Fx) (b L : Nat) (xs : Nat → Int32) (a : Nat → Nat) (o : Nat) (ad : Nat → Nat) (u t kc ks : Nat) (h : PH) : Prop :=
  Wx w c ∧ Cx z RL code gw ∧ Cs z w 2048 84000 ∧ LZ z b ∧ va_X b L xs z.s z.s.heap ∧ (7 * t + 7 ≤ L ∧ L ≤ 3584) ∧ LJ c a o ad u h ∧ ∀ (g : PH) (l5 l6 l7 : Option Value), LJ c a o ad u g → X z kc ks (EQ g) 685 [some (.ref b), some (.ref (a 0)), some (.ref o), some (.ref u), some (.int (nI (7 * t))), l5, l6, l7] []
section Cases
variable {w : Wd} {c : Nat → ClassId} {z : Fx} {b L : Nat} {xs : Nat → Int32} {a : Nat → Nat} {o : Nat} {ad : Nat → Nat} {u t kc ks : Nat} {h : PH} {l5 l6 l7 : Option Value}
theorem c6_type (Q : LC5 w c z b L xs a o ad u t kc ks h) : X z (kc + 1050) (ks + 8040) (EQ h) 124 [some (.ref b), some (.ref (a 0)), some (.ref o), some (.ref u), some (.int (nI (7 * t))), l5, l6, l7] [] := by
  obtain ⟨hX, C, E, hz, S, ⟨tL, L3⟩, I, K⟩ := Q
  have Y := Cty.of hX.1 E
  have hn : z.nL = 8 := hz.2.2.2.1
  obtain ⟨S0, ⟨hS, α, f, κ, κd, ω, ωd, Z⟩, ⟨f1, ho⟩, hM0, ok, nu, nad⟩ := I
  have hV : VV o ad u u := Or.inl rfl
  have hWm : ∀ g : PH, Wm w (c, o, ad, g) := fun g => ⟨hX.1.1, ok, hX.1.2.1, hX.1.2.2.1, hX.1.2.2.2.1, hX.1.2.2.2.2⟩
  refine x_aload_n C dL_law_124 rfl ?_
  refine x_aload_n C dL_law_125 rfl ?_
  refine x_iload C dL_law_126 rfl ?_
  refine x_iconst (v := 1) C dL_law_128 (by decide) ?_
  refine x_iadd C dL_law_129 ?_
  refine w_sld C hz S dL_law_130 (vp_s (n := 1) (by omega) L3) ?_
  refine x_i2l C dL_law_131 ?_
  refine x_bipush (v := 32) C dL_law_132 (by decide) ?_
  refine x_lshl C dL_law_134 ?_
  refine x_aload_n C dL_law_135 rfl ?_
  refine x_iload C dL_law_136 rfl ?_
  refine x_iconst (v := 2) C dL_law_138 (by decide) ?_
  refine x_iadd C dL_law_139 ?_
  refine w_sld C hz S dL_law_140 (vp_s (n := 2) (by omega) L3) ?_
  refine x_i2l C dL_law_141 ?_
  refine x_ldc2 C wk_L_62 dL_law_142 ?_
  refine x_land C dL_law_145 ?_
  refine x_lor C dL_law_146 ?_
  refine x_aload_n C dL_law_147 rfl ?_
  refine x_iload C dL_law_148 rfl ?_
  refine x_iconst (v := 3) C dL_law_150 (by decide) ?_
  refine x_iadd C dL_law_151 ?_
  refine w_sld C hz S dL_law_152 (vp_s (n := 3) (by omega) L3) ?_
  refine x_aload_n C dL_law_153 rfl ?_
  refine k_callSW (kc := kc + 1049) (ks := ks + 8034) (st := []) C E hX.1.1 gw_good (l6_type hX hS Z ho hV _ _) mw_L_type wt_L_type wm_L_64 dL_law_154 rfl (by decide) (by decide) rfl (by simp) (fun r => X.opn (fun g hg => ?_))
  obtain ⟨kv, mv, S1, rfl, mt, e0, ev, hq⟩ := hg
  have hM := hq.ma hM0 nu nad
  refine o_istoreE (L' := [some _, some _, some _, some _, some _, some _, l6, l7]) C dL_law_157 (by rw [hn]; decide) rfl ?_
  refine x_aload_n C dL_law_159 rfl ?_
  refine x_aload_n C dL_law_160 rfl ?_
  refine x_iload C dL_law_161 rfl ?_
  refine x_iconst (v := 1) C dL_law_163 (by decide) ?_
  refine x_iadd C dL_law_164 ?_
  refine w_sld C hz S dL_law_165 (vp_s (n := 1) (by omega) L3) ?_
  refine x_i2l C dL_law_166 ?_
  refine x_bipush (v := 32) C dL_law_167 (by decide) ?_
  refine x_lshl C dL_law_169 ?_
  refine x_aload_n C dL_law_170 rfl ?_
  refine x_iload C dL_law_171 rfl ?_
  refine x_iconst (v := 2) C dL_law_173 (by decide) ?_
  refine x_iadd C dL_law_174 ?_
  refine w_sld C hz S dL_law_175 (vp_s (n := 2) (by omega) L3) ?_
  refine x_i2l C dL_law_176 ?_
  refine x_ldc2 C wk_L_62 dL_law_177 ?_
  refine x_land C dL_law_180 ?_
  refine x_lor C dL_law_181 ?_
  refine x_aload_n C dL_law_182 rfl ?_
  refine x_iload C dL_law_183 rfl ?_
  refine x_iconst (v := 3) C dL_law_185 (by decide) ?_
  refine x_iadd C dL_law_186 ?_
  refine w_sld C hz S dL_law_187 (vp_s (n := 3) (by omega) L3) ?_
  refine X.heap (A' := MA (c, o, ad, g) S0) ?_ (fun q e => by rw [e]; exact hM)
  refine w_callM (st := []) C E Y.1 (hWm g) (mt (c, o, ad, g) (hWm g)) rfl md_X7_type wi_X7_type ws_X7_type wm_L_69 dL_law_188 rfl (by decide) (by decide) rfl (by simp [Value.category]) ?_
  refine o_istoreE (L' := [some _, some _, some _, some _, some _, some _, some _, l7]) C dL_law_191 (by rw [hn]; decide) rfl ?_
  refine x_goto (tgt := 685) C dL_law_193 (by decide) ?_
  refine X.opn (fun g' hM' => ?_)
  exact (K g' _ _ _ (LJ.of hq ok nu nad hM')).room (by omega) (by omega)
theorem c6_keep (Q : LC5 w c z b L xs a o ad u t kc ks h) : X z (kc + 1050) (ks + 8040) (EQ h) 196 [some (.ref b), some (.ref (a 0)), some (.ref o), some (.ref u), some (.int (nI (7 * t))), l5, l6, l7] [] := by
  obtain ⟨hX, C, E, hz, S, ⟨tL, L3⟩, I, K⟩ := Q
  have Y := Cty.of hX.1 E
  have hn : z.nL = 8 := hz.2.2.2.1
  obtain ⟨S0, ⟨hS, α, f, κ, κd, ω, ωd, Z⟩, ⟨f1, ho⟩, hM0, ok, nu, nad⟩ := I
  have hV : VV o ad u u := Or.inl rfl
  have hWm : ∀ g : PH, Wm w (c, o, ad, g) := fun g => ⟨hX.1.1, ok, hX.1.2.1, hX.1.2.2.1, hX.1.2.2.2.1, hX.1.2.2.2.2⟩
  refine x_aload_n C dL_law_196 rfl ?_
  refine x_aload_n C dL_law_197 rfl ?_
  refine x_iload C dL_law_198 rfl ?_
  refine x_iconst (v := 1) C dL_law_200 (by decide) ?_
  refine x_iadd C dL_law_201 ?_
  refine w_sld C hz S dL_law_202 (vp_s (n := 1) (by omega) L3) ?_
  refine k_callSW (kc := kc + 1049) (ks := ks + 8034) (st := []) C E hX.1.1 gw_good (l6_keep hX hS Z ho hV _) mw_L_keep wt_L_keep wm_L_70 dL_law_203 rfl (by decide) (by decide) rfl (by simp) (fun r => X.opn (fun g hg => ?_))
  obtain ⟨kv, S1, rfl, mt, e0, hq⟩ := hg
  have hM := hq.ma hM0 nu nad
  refine o_istoreE (L' := [some _, some _, some _, some _, some _, some _, l6, l7]) C dL_law_206 (by rw [hn]; decide) rfl ?_
  refine x_aload_n C dL_law_208 rfl ?_
  refine x_aload_n C dL_law_209 rfl ?_
  refine x_iload C dL_law_210 rfl ?_
  refine x_iconst (v := 1) C dL_law_212 (by decide) ?_
  refine x_iadd C dL_law_213 ?_
  refine w_sld C hz S dL_law_214 (vp_s (n := 1) (by omega) L3) ?_
  refine X.heap (A' := MA (c, o, ad, g) S0) ?_ (fun q e => by rw [e]; exact hM)
  refine w_callM (st := []) C E Y.1 (hWm g) (mt (c, o, ad, g) (hWm g)) rfl md_X7_keep wi_X7_keep ws_X7_keep wm_L_73 dL_law_215 rfl (by decide) (by decide) rfl (by simp [Value.category]) ?_
  refine x_goto (tgt := 685) C dL_law_218 (by decide) ?_
  refine X.opn (fun g' hM' => ?_)
  exact (K g' _ _ _ (LJ.of hq ok nu nad hM')).room (by omega) (by omega)
theorem c6_typed (Q : LC5 w c z b L xs a o ad u t kc ks h) : X z (kc + 1050) (ks + 8040) (EQ h) 221 [some (.ref b), some (.ref (a 0)), some (.ref o), some (.ref u), some (.int (nI (7 * t))), l5, l6, l7] [] := by
  obtain ⟨hX, C, E, hz, S, ⟨tL, L3⟩, I, K⟩ := Q
  have Y := Cty.of hX.1 E
  have hn : z.nL = 8 := hz.2.2.2.1
  obtain ⟨S0, ⟨hS, α, f, κ, κd, ω, ωd, Z⟩, ⟨f1, ho⟩, hM0, ok, nu, nad⟩ := I
  have hV : VV o ad u u := Or.inl rfl
  have hWm : ∀ g : PH, Wm w (c, o, ad, g) := fun g => ⟨hX.1.1, ok, hX.1.2.1, hX.1.2.2.1, hX.1.2.2.2.1, hX.1.2.2.2.2⟩
  refine x_aload_n C dL_law_221 rfl ?_
  refine x_aload_n C dL_law_222 rfl ?_
  refine x_iload C dL_law_223 rfl ?_
  refine x_iconst (v := 1) C dL_law_225 (by decide) ?_
  refine x_iadd C dL_law_226 ?_
  refine w_sld C hz S dL_law_227 (vp_s (n := 1) (by omega) L3) ?_
  refine x_aload_n C dL_law_228 rfl ?_
  refine k_callSW (kc := kc + 1049) (ks := ks + 8034) (st := []) C E hX.1.1 gw_good (l6_typed hX hS Z ho hV _) mw_L_typed wt_L_typed wm_L_74 dL_law_229 rfl (by decide) (by decide) rfl (by simp) (fun r => X.opn (fun g hg => ?_))
  obtain ⟨kv, mv, S1, rfl, mt, e0, ev, hq⟩ := hg
  have hM := hq.ma hM0 nu nad
  refine o_istoreE (L' := [some _, some _, some _, some _, some _, some _, l6, l7]) C dL_law_232 (by rw [hn]; decide) rfl ?_
  refine x_aload_n C dL_law_234 rfl ?_
  refine x_aload_n C dL_law_235 rfl ?_
  refine x_iload C dL_law_236 rfl ?_
  refine x_iconst (v := 1) C dL_law_238 (by decide) ?_
  refine x_iadd C dL_law_239 ?_
  refine w_sld C hz S dL_law_240 (vp_s (n := 1) (by omega) L3) ?_
  refine X.heap (A' := MA (c, o, ad, g) S0) ?_ (fun q e => by rw [e]; exact hM)
  refine w_callM (st := []) C E Y.1 (hWm g) (mt (c, o, ad, g) (hWm g)) rfl md_X7_typed wi_X7_typed ws_X7_typed wm_L_77 dL_law_241 rfl (by decide) (by decide) rfl (by simp [Value.category]) ?_
  refine o_istoreE (L' := [some _, some _, some _, some _, some _, some _, some _, l7]) C dL_law_244 (by rw [hn]; decide) rfl ?_
  refine x_goto (tgt := 685) C dL_law_246 (by decide) ?_
  refine X.opn (fun g' hM' => ?_)
  exact (K g' _ _ _ (LJ.of hq ok nu nad hM')).room (by omega) (by omega)
theorem c6_meter (Q : LC5 w c z b L xs a o ad u t kc ks h) : X z (kc + 1050) (ks + 8040) (EQ h) 249 [some (.ref b), some (.ref (a 0)), some (.ref o), some (.ref u), some (.int (nI (7 * t))), l5, l6, l7] [] := by
  obtain ⟨hX, C, E, hz, S, ⟨tL, L3⟩, I, K⟩ := Q
  have Y := Cty.of hX.1 E
  have hn : z.nL = 8 := hz.2.2.2.1
  obtain ⟨S0, ⟨hS, α, f, κ, κd, ω, ωd, Z⟩, ⟨f1, ho⟩, hM0, ok, nu, nad⟩ := I
  have hV : VV o ad u u := Or.inl rfl
  have hWm : ∀ g : PH, Wm w (c, o, ad, g) := fun g => ⟨hX.1.1, ok, hX.1.2.1, hX.1.2.2.1, hX.1.2.2.2.1, hX.1.2.2.2.2⟩
  refine x_aload_n C dL_law_249 rfl ?_
  refine x_aload_n C dL_law_250 rfl ?_
  refine x_iload C dL_law_251 rfl ?_
  refine x_iconst (v := 1) C dL_law_253 (by decide) ?_
  refine x_iadd C dL_law_254 ?_
  refine w_sld C hz S dL_law_255 (vp_s (n := 1) (by omega) L3) ?_
  refine x_aload_n C dL_law_256 rfl ?_
  refine x_iload C dL_law_257 rfl ?_
  refine x_iconst (v := 2) C dL_law_259 (by decide) ?_
  refine x_iadd C dL_law_260 ?_
  refine w_sld C hz S dL_law_261 (vp_s (n := 2) (by omega) L3) ?_
  refine x_aload_n C dL_law_262 rfl ?_
  refine x_iload C dL_law_263 rfl ?_
  refine x_iconst (v := 3) C dL_law_265 (by decide) ?_
  refine x_iadd C dL_law_266 ?_
  refine w_sld C hz S dL_law_267 (vp_s (n := 3) (by omega) L3) ?_
  refine x_aload_n C dL_law_268 rfl ?_
  refine x_iload C dL_law_269 rfl ?_
  refine x_iconst (v := 4) C dL_law_271 (by decide) ?_
  refine x_iadd C dL_law_272 ?_
  refine w_sld C hz S dL_law_273 (vp_s (n := 4) (by omega) L3) ?_
  refine x_aload_n C dL_law_274 rfl ?_
  refine x_iload C dL_law_275 rfl ?_
  refine x_iconst (v := 5) C dL_law_277 (by decide) ?_
  refine x_iadd C dL_law_278 ?_
  refine w_sld C hz S dL_law_279 (vp_s (n := 5) (by omega) L3) ?_
  refine x_aload_n C dL_law_280 rfl ?_
  refine x_iload C dL_law_281 rfl ?_
  refine x_bipush (v := 6) C dL_law_283 (by decide) ?_
  refine x_iadd C dL_law_285 ?_
  refine w_sld C hz S dL_law_286 (vp_s (n := 6) (by omega) L3) ?_
  refine k_callSW (kc := kc + 1044) (ks := ks + 7846) (st := []) C E hX.1.1 gw_good (l6_meter hX hS Z ho hV _ _ _ _ _ _) mw_L_meter wt_L_meter wm_L_78 dL_law_287 rfl (by decide) (by decide) rfl (by simp) (fun r => X.opn (fun g hg => ?_))
  obtain ⟨kv, S1, rfl, mt, e0, hq⟩ := hg
  have hM := hq.ma hM0 nu nad
  refine o_istoreE (L' := [some _, some _, some _, some _, some _, some _, l6, l7]) C dL_law_290 (by rw [hn]; decide) rfl ?_
  refine x_aload_n C dL_law_292 rfl ?_
  refine x_aload_n C dL_law_293 rfl ?_
  refine x_iload C dL_law_294 rfl ?_
  refine x_iconst (v := 1) C dL_law_296 (by decide) ?_
  refine x_iadd C dL_law_297 ?_
  refine w_sld C hz S dL_law_298 (vp_s (n := 1) (by omega) L3) ?_
  refine x_aload_n C dL_law_299 rfl ?_
  refine x_iload C dL_law_300 rfl ?_
  refine x_iconst (v := 2) C dL_law_302 (by decide) ?_
  refine x_iadd C dL_law_303 ?_
  refine w_sld C hz S dL_law_304 (vp_s (n := 2) (by omega) L3) ?_
  refine x_aload_n C dL_law_305 rfl ?_
  refine x_iload C dL_law_306 rfl ?_
  refine x_iconst (v := 3) C dL_law_308 (by decide) ?_
  refine x_iadd C dL_law_309 ?_
  refine w_sld C hz S dL_law_310 (vp_s (n := 3) (by omega) L3) ?_
  refine x_aload_n C dL_law_311 rfl ?_
  refine x_iload C dL_law_312 rfl ?_
  refine x_iconst (v := 4) C dL_law_314 (by decide) ?_
  refine x_iadd C dL_law_315 ?_
  refine w_sld C hz S dL_law_316 (vp_s (n := 4) (by omega) L3) ?_
  refine x_aload_n C dL_law_317 rfl ?_
  refine x_iload C dL_law_318 rfl ?_
  refine x_iconst (v := 5) C dL_law_320 (by decide) ?_
  refine x_iadd C dL_law_321 ?_
  refine w_sld C hz S dL_law_322 (vp_s (n := 5) (by omega) L3) ?_
  refine x_aload_n C dL_law_323 rfl ?_
  refine x_iload C dL_law_324 rfl ?_
  refine x_bipush (v := 6) C dL_law_326 (by decide) ?_
  refine x_iadd C dL_law_328 ?_
  refine w_sld C hz S dL_law_329 (vp_s (n := 6) (by omega) L3) ?_
  refine X.heap (A' := MA (c, o, ad, g) S0) ?_ (fun q e => by rw [e]; exact hM)
  refine w_callM (st := []) C E Y.1 (hWm g) (mt (c, o, ad, g) (hWm g)) rfl md_X7_meter wi_X7_meter ws_X7_meter wm_L_81 dL_law_330 rfl (by decide) (by decide) rfl (by simp [Value.category]) ?_
  refine x_goto (tgt := 685) C dL_law_333 (by decide) ?_
  refine X.opn (fun g' hM' => ?_)
  exact (K g' _ _ _ (LJ.of hq ok nu nad hM')).room (by omega) (by omega)
theorem c6_remove (Q : LC5 w c z b L xs a o ad u t kc ks h) : X z (kc + 1050) (ks + 8040) (EQ h) 336 [some (.ref b), some (.ref (a 0)), some (.ref o), some (.ref u), some (.int (nI (7 * t))), l5, l6, l7] [] := by
  obtain ⟨hX, C, E, hz, S, ⟨tL, L3⟩, I, K⟩ := Q
  have Y := Cty.of hX.1 E
  have hn : z.nL = 8 := hz.2.2.2.1
  obtain ⟨S0, ⟨hS, α, f, κ, κd, ω, ωd, Z⟩, ⟨f1, ho⟩, hM0, ok, nu, nad⟩ := I
  have hV : VV o ad u u := Or.inl rfl
  have hWm : ∀ g : PH, Wm w (c, o, ad, g) := fun g => ⟨hX.1.1, ok, hX.1.2.1, hX.1.2.2.1, hX.1.2.2.2.1, hX.1.2.2.2.2⟩
  refine x_aload_n C dL_law_336 rfl ?_
  refine x_aload_n C dL_law_337 rfl ?_
  refine x_iload C dL_law_338 rfl ?_
  refine x_iconst (v := 1) C dL_law_340 (by decide) ?_
  refine x_iadd C dL_law_341 ?_
  refine w_sld C hz S dL_law_342 (vp_s (n := 1) (by omega) L3) ?_
  refine x_aload_n C dL_law_343 rfl ?_
  refine k_callSW (kc := kc + 1049) (ks := ks + 8034) (st := []) C E hX.1.1 gw_good (l6_remove hX hS Z ho hV _) mw_L_remove wt_L_remove wm_L_82 dL_law_344 rfl (by decide) (by decide) rfl (by simp) (fun r => X.opn (fun g hg => ?_))
  obtain ⟨kv, mv, S1, rfl, mt, e0, ev, hq⟩ := hg
  have hM := hq.ma hM0 nu nad
  refine o_istoreE (L' := [some _, some _, some _, some _, some _, some _, l6, l7]) C dL_law_347 (by rw [hn]; decide) rfl ?_
  refine x_aload_n C dL_law_349 rfl ?_
  refine x_aload_n C dL_law_350 rfl ?_
  refine x_iload C dL_law_351 rfl ?_
  refine x_iconst (v := 1) C dL_law_353 (by decide) ?_
  refine x_iadd C dL_law_354 ?_
  refine w_sld C hz S dL_law_355 (vp_s (n := 1) (by omega) L3) ?_
  refine X.heap (A' := MA (c, o, ad, g) S0) ?_ (fun q e => by rw [e]; exact hM)
  refine w_callM (st := []) C E Y.1 (hWm g) (mt (c, o, ad, g) (hWm g)) rfl md_X7_remove wi_X7_remove ws_X7_remove wm_L_84 dL_law_356 rfl (by decide) (by decide) rfl (by simp [Value.category]) ?_
  refine o_istoreE (L' := [some _, some _, some _, some _, some _, some _, some _, l7]) C dL_law_359 (by rw [hn]; decide) rfl ?_
  refine x_goto (tgt := 685) C dL_law_361 (by decide) ?_
  refine X.opn (fun g' hM' => ?_)
  exact (K g' _ _ _ (LJ.of hq ok nu nad hM')).room (by omega) (by omega)
theorem c6_page (Q : LC5 w c z b L xs a o ad u t kc ks h) : X z (kc + 1050) (ks + 8040) (EQ h) 364 [some (.ref b), some (.ref (a 0)), some (.ref o), some (.ref u), some (.int (nI (7 * t))), l5, l6, l7] [] := by
  obtain ⟨hX, C, E, hz, S, ⟨tL, L3⟩, I, K⟩ := Q
  have Y := Cty.of hX.1 E
  have hn : z.nL = 8 := hz.2.2.2.1
  obtain ⟨S0, ⟨hS, α, f, κ, κd, ω, ωd, Z⟩, ⟨f1, ho⟩, hM0, ok, nu, nad⟩ := I
  have hV : VV o ad u u := Or.inl rfl
  have hWm : ∀ g : PH, Wm w (c, o, ad, g) := fun g => ⟨hX.1.1, ok, hX.1.2.1, hX.1.2.2.1, hX.1.2.2.2.1, hX.1.2.2.2.2⟩
  refine x_aload_n C dL_law_364 rfl ?_
  refine x_aload_n C dL_law_365 rfl ?_
  refine x_iload C dL_law_366 rfl ?_
  refine x_iconst (v := 1) C dL_law_368 (by decide) ?_
  refine x_iadd C dL_law_369 ?_
  refine w_sld C hz S dL_law_370 (vp_s (n := 1) (by omega) L3) ?_
  refine x_aload_n C dL_law_371 rfl ?_
  refine x_iload C dL_law_372 rfl ?_
  refine x_iconst (v := 2) C dL_law_374 (by decide) ?_
  refine x_iadd C dL_law_375 ?_
  refine w_sld C hz S dL_law_376 (vp_s (n := 2) (by omega) L3) ?_
  refine x_aload_n C dL_law_377 rfl ?_
  refine k_callSW (kc := kc + 1049) (ks := ks + 8034) (st := []) C E hX.1.1 gw_good (l6_page hX hS Z ho hV _ _) mw_L_page wt_L_page wm_L_85 dL_law_378 rfl (by decide) (by decide) rfl (by simp) (fun r => X.opn (fun g hg => ?_))
  obtain ⟨kv, mv, S1, rfl, mt, e0, ev, hq⟩ := hg
  have hM := hq.ma hM0 nu nad
  refine o_istoreE (L' := [some _, some _, some _, some _, some _, some _, l6, l7]) C dL_law_381 (by rw [hn]; decide) rfl ?_
  refine x_aload_n C dL_law_383 rfl ?_
  refine x_aload_n C dL_law_384 rfl ?_
  refine x_iload C dL_law_385 rfl ?_
  refine x_iconst (v := 1) C dL_law_387 (by decide) ?_
  refine x_iadd C dL_law_388 ?_
  refine w_sld C hz S dL_law_389 (vp_s (n := 1) (by omega) L3) ?_
  refine x_aload_n C dL_law_390 rfl ?_
  refine x_iload C dL_law_391 rfl ?_
  refine x_iconst (v := 2) C dL_law_393 (by decide) ?_
  refine x_iadd C dL_law_394 ?_
  refine w_sld C hz S dL_law_395 (vp_s (n := 2) (by omega) L3) ?_
  refine X.heap (A' := MA (c, o, ad, g) S0) ?_ (fun q e => by rw [e]; exact hM)
  refine w_callM (st := []) C E Y.1 (hWm g) (mt (c, o, ad, g) (hWm g)) rfl md_X7_page wi_X7_page ws_X7_page wm_L_88 dL_law_396 rfl (by decide) (by decide) rfl (by simp [Value.category]) ?_
  refine o_istoreE (L' := [some _, some _, some _, some _, some _, some _, some _, l7]) C dL_law_399 (by rw [hn]; decide) rfl ?_
  refine x_goto (tgt := 685) C dL_law_401 (by decide) ?_
  refine X.opn (fun g' hM' => ?_)
  exact (K g' _ _ _ (LJ.of hq ok nu nad hM')).room (by omega) (by omega)
theorem c6_state (Q : LC5 w c z b L xs a o ad u t kc ks h) : X z (kc + 1050) (ks + 8040) (EQ h) 404 [some (.ref b), some (.ref (a 0)), some (.ref o), some (.ref u), some (.int (nI (7 * t))), l5, l6, l7] [] := by
  obtain ⟨hX, C, E, hz, S, ⟨tL, L3⟩, I, K⟩ := Q
  have Y := Cty.of hX.1 E
  have hn : z.nL = 8 := hz.2.2.2.1
  obtain ⟨S0, ⟨hS, α, f, κ, κd, ω, ωd, Z⟩, ⟨f1, ho⟩, hM0, ok, nu, nad⟩ := I
  have hV : VV o ad u u := Or.inl rfl
  have hWm : ∀ g : PH, Wm w (c, o, ad, g) := fun g => ⟨hX.1.1, ok, hX.1.2.1, hX.1.2.2.1, hX.1.2.2.2.1, hX.1.2.2.2.2⟩
  refine x_aload_n C dL_law_404 rfl ?_
  refine x_aload_n C dL_law_405 rfl ?_
  refine x_iload C dL_law_406 rfl ?_
  refine x_iconst (v := 1) C dL_law_408 (by decide) ?_
  refine x_iadd C dL_law_409 ?_
  refine w_sld C hz S dL_law_410 (vp_s (n := 1) (by omega) L3) ?_
  refine x_aload_n C dL_law_411 rfl ?_
  refine x_iload C dL_law_412 rfl ?_
  refine x_iconst (v := 2) C dL_law_414 (by decide) ?_
  refine x_iadd C dL_law_415 ?_
  refine w_sld C hz S dL_law_416 (vp_s (n := 2) (by omega) L3) ?_
  refine x_aload_n C dL_law_417 rfl ?_
  refine k_callSW (kc := kc + 1049) (ks := ks + 8034) (st := []) C E hX.1.1 gw_good (l6_state hX hS Z ho hV _ _) mw_L_state wt_L_state wm_L_89 dL_law_418 rfl (by decide) (by decide) rfl (by simp) (fun r => X.opn (fun g hg => ?_))
  obtain ⟨kv, mv, S1, rfl, mt, e0, ev, hq⟩ := hg
  have hM := hq.ma hM0 nu nad
  refine o_istoreE (L' := [some _, some _, some _, some _, some _, some _, l6, l7]) C dL_law_421 (by rw [hn]; decide) rfl ?_
  refine x_aload_n C dL_law_423 rfl ?_
  refine x_aload_n C dL_law_424 rfl ?_
  refine x_iload C dL_law_425 rfl ?_
  refine x_iconst (v := 1) C dL_law_427 (by decide) ?_
  refine x_iadd C dL_law_428 ?_
  refine w_sld C hz S dL_law_429 (vp_s (n := 1) (by omega) L3) ?_
  refine x_aload_n C dL_law_430 rfl ?_
  refine x_iload C dL_law_431 rfl ?_
  refine x_iconst (v := 2) C dL_law_433 (by decide) ?_
  refine x_iadd C dL_law_434 ?_
  refine w_sld C hz S dL_law_435 (vp_s (n := 2) (by omega) L3) ?_
  refine X.heap (A' := MA (c, o, ad, g) S0) ?_ (fun q e => by rw [e]; exact hM)
  refine w_callM (st := []) C E Y.1 (hWm g) (mt (c, o, ad, g) (hWm g)) rfl md_X7_state wi_X7_state ws_X7_state wm_L_91 dL_law_436 rfl (by decide) (by decide) rfl (by simp [Value.category]) ?_
  refine o_istoreE (L' := [some _, some _, some _, some _, some _, some _, some _, l7]) C dL_law_439 (by rw [hn]; decide) rfl ?_
  refine x_goto (tgt := 685) C dL_law_441 (by decide) ?_
  refine X.opn (fun g' hM' => ?_)
  exact (K g' _ _ _ (LJ.of hq ok nu nad hM')).room (by omega) (by omega)
theorem c6_send (Q : LC5 w c z b L xs a o ad u t kc ks h) : X z (kc + 1050) (ks + 8040) (EQ h) 444 [some (.ref b), some (.ref (a 0)), some (.ref o), some (.ref u), some (.int (nI (7 * t))), l5, l6, l7] [] := by
  obtain ⟨hX, C, E, hz, S, ⟨tL, L3⟩, I, K⟩ := Q
  have Y := Cty.of hX.1 E
  have hn : z.nL = 8 := hz.2.2.2.1
  obtain ⟨S0, ⟨hS, α, f, κ, κd, ω, ωd, Z⟩, ⟨f1, ho⟩, hM0, ok, nu, nad⟩ := I
  have hV : VV o ad u u := Or.inl rfl
  have hWm : ∀ g : PH, Wm w (c, o, ad, g) := fun g => ⟨hX.1.1, ok, hX.1.2.1, hX.1.2.2.1, hX.1.2.2.2.1, hX.1.2.2.2.2⟩
  refine x_aload_n C dL_law_444 rfl ?_
  refine k_callR (kc := kc + 1050) (ks := ks + 8040) (mc' := 0) (ms' := 0) (st := []) C Y hX.1 E (zy_send hX hS Z) rfl md_X6_send wi_X6_send ws_X6_send wm_L_92 dL_law_445 rfl (by decide) (by decide) Z.x rfl rfl (by decide) (fun r g hg => ?_)
  obtain ⟨n, n1, n2, rfl, Zg⟩ := hg
  have hq := LX.of ho hV Zg
  have hM := hq.ma hM0 nu nad
  have mt : ∀ M : MW, Wm w M → _ := fun M hM => g_send (M := M) hM hS.1 n n1 n2
  refine x_aload_n C dL_law_448 rfl ?_
  refine X.heap (A' := MA (c, o, ad, g) S0) ?_ (fun q e => by rw [e]; exact hM)
  refine w_callM (st := [_]) C E Y.1 (hWm g) (mt (c, o, ad, g) (hWm g)) rfl md_X7_send wi_X7_send ws_X7_send wm_L_96 dL_law_449 rfl (by decide) (by decide) rfl (by simp [Value.category]) ?_
  refine x_icmp_eq (tgt := 685) C dL_law_452 (by decide) (fun _ => ?_) (fun q => absurd rfl q)
  refine X.opn (fun g' hM' => ?_)
  exact (K g' _ _ _ (LJ.of hq ok nu nad hM')).room (by omega) (by omega)
theorem c6_search (Q : LC5 w c z b L xs a o ad u t kc ks h) : X z (kc + 1050) (ks + 8040) (EQ h) 457 [some (.ref b), some (.ref (a 0)), some (.ref o), some (.ref u), some (.int (nI (7 * t))), l5, l6, l7] [] := by
  obtain ⟨hX, C, E, hz, S, ⟨tL, L3⟩, I, K⟩ := Q
  have Y := Cty.of hX.1 E
  have hn : z.nL = 8 := hz.2.2.2.1
  obtain ⟨S0, ⟨hS, α, f, κ, κd, ω, ωd, Z⟩, ⟨f1, ho⟩, hM0, ok, nu, nad⟩ := I
  have hV : VV o ad u u := Or.inl rfl
  have hWm : ∀ g : PH, Wm w (c, o, ad, g) := fun g => ⟨hX.1.1, ok, hX.1.2.1, hX.1.2.2.1, hX.1.2.2.2.1, hX.1.2.2.2.2⟩
  refine x_aload_n C dL_law_457 rfl ?_
  refine k_callR (kc := kc + 1050) (ks := ks + 8040) (mc' := 0) (ms' := 0) (st := []) C Y hX.1 E (zy_search hX hS Z) rfl md_X6_search wi_X6_search ws_X6_search wm_L_97 dL_law_458 rfl (by decide) (by decide) Z.x rfl rfl (by decide) (fun r g hg => ?_)
  obtain ⟨rfl, Zg⟩ := hg
  have hq := LX.of ho hV Zg
  have hM := hq.ma hM0 nu nad
  have mt : ∀ M : MW, Wm w M → _ := fun M hM => g_search (M := M) hM hS.1
  refine x_pop C dL_law_461 rfl ?_
  refine x_aload_n C dL_law_462 rfl ?_
  refine X.heap (A' := MA (c, o, ad, g) S0) ?_ (fun q e => by rw [e]; exact hM)
  refine w_callM (st := []) C E Y.1 (hWm g) (mt (c, o, ad, g) (hWm g)) rfl md_X7_search wi_X7_search ws_X7_search wm_L_100 dL_law_463 rfl (by decide) (by decide) rfl (by simp [Value.category]) ?_
  refine x_pop C dL_law_466 rfl ?_
  refine x_goto (tgt := 685) C dL_law_467 (by decide) ?_
  refine X.opn (fun g' hM' => ?_)
  exact (K g' _ _ _ (LJ.of hq ok nu nad hM')).room (by omega) (by omega)
theorem c6_found (Q : LC5 w c z b L xs a o ad u t kc ks h) : X z (kc + 1050) (ks + 8040) (EQ h) 470 [some (.ref b), some (.ref (a 0)), some (.ref o), some (.ref u), some (.int (nI (7 * t))), l5, l6, l7] [] := by
  obtain ⟨hX, C, E, hz, S, ⟨tL, L3⟩, I, K⟩ := Q
  have Y := Cty.of hX.1 E
  have hn : z.nL = 8 := hz.2.2.2.1
  obtain ⟨S0, ⟨hS, α, f, κ, κd, ω, ωd, Z⟩, ⟨f1, ho⟩, hM0, ok, nu, nad⟩ := I
  have hV : VV o ad u u := Or.inl rfl
  have hWm : ∀ g : PH, Wm w (c, o, ad, g) := fun g => ⟨hX.1.1, ok, hX.1.2.1, hX.1.2.2.1, hX.1.2.2.2.1, hX.1.2.2.2.2⟩
  refine x_aload_n C dL_law_470 rfl ?_
  refine x_aload_n C dL_law_471 rfl ?_
  refine x_iload C dL_law_472 rfl ?_
  refine x_iconst (v := 1) C dL_law_474 (by decide) ?_
  refine x_iadd C dL_law_475 ?_
  refine w_sld C hz S dL_law_476 (vp_s (n := 1) (by omega) L3) ?_
  refine x_aload_n C dL_law_477 rfl ?_
  refine x_iload C dL_law_478 rfl ?_
  refine x_iconst (v := 2) C dL_law_480 (by decide) ?_
  refine x_iadd C dL_law_481 ?_
  refine w_sld C hz S dL_law_482 (vp_s (n := 2) (by omega) L3) ?_
  refine x_aload_n C dL_law_483 rfl ?_
  refine k_callSW (kc := kc + 1049) (ks := ks + 8034) (st := []) C E hX.1.1 gw_good (l6_found hX hS Z ho hV _ _) mw_L_found wt_L_found wm_L_101 dL_law_484 rfl (by decide) (by decide) rfl (by simp) (fun r => X.opn (fun g hg => ?_))
  obtain ⟨kv, mv, S1, rfl, mt, e0, ev, hq⟩ := hg
  have hM := hq.ma hM0 nu nad
  refine o_istoreE (L' := [some _, some _, some _, some _, some _, some _, l6, l7]) C dL_law_487 (by rw [hn]; decide) rfl ?_
  refine x_aload_n C dL_law_489 rfl ?_
  refine x_aload_n C dL_law_490 rfl ?_
  refine x_iload C dL_law_491 rfl ?_
  refine x_iconst (v := 1) C dL_law_493 (by decide) ?_
  refine x_iadd C dL_law_494 ?_
  refine w_sld C hz S dL_law_495 (vp_s (n := 1) (by omega) L3) ?_
  refine x_aload_n C dL_law_496 rfl ?_
  refine x_iload C dL_law_497 rfl ?_
  refine x_iconst (v := 2) C dL_law_499 (by decide) ?_
  refine x_iadd C dL_law_500 ?_
  refine w_sld C hz S dL_law_501 (vp_s (n := 2) (by omega) L3) ?_
  refine X.heap (A' := MA (c, o, ad, g) S0) ?_ (fun q e => by rw [e]; exact hM)
  refine w_callM (st := []) C E Y.1 (hWm g) (mt (c, o, ad, g) (hWm g)) rfl md_X7_found wi_X7_found ws_X7_found wm_L_103 dL_law_502 rfl (by decide) (by decide) rfl (by simp [Value.category]) ?_
  refine o_istoreE (L' := [some _, some _, some _, some _, some _, some _, some _, l7]) C dL_law_505 (by rw [hn]; decide) rfl ?_
  refine x_goto (tgt := 685) C dL_law_507 (by decide) ?_
  refine X.opn (fun g' hM' => ?_)
  exact (K g' _ _ _ (LJ.of hq ok nu nad hM')).room (by omega) (by omega)
theorem c6_readOut (Q : LC5 w c z b L xs a o ad u t kc ks h) : X z (kc + 1050) (ks + 8040) (EQ h) 510 [some (.ref b), some (.ref (a 0)), some (.ref o), some (.ref u), some (.int (nI (7 * t))), l5, l6, l7] [] := by
  obtain ⟨hX, C, E, hz, S, ⟨tL, L3⟩, I, K⟩ := Q
  have Y := Cty.of hX.1 E
  have hn : z.nL = 8 := hz.2.2.2.1
  obtain ⟨S0, ⟨hS, α, f, κ, κd, ω, ωd, Z⟩, ⟨f1, ho⟩, hM0, ok, nu, nad⟩ := I
  have hV : VV o ad u u := Or.inl rfl
  have hWm : ∀ g : PH, Wm w (c, o, ad, g) := fun g => ⟨hX.1.1, ok, hX.1.2.1, hX.1.2.2.1, hX.1.2.2.2.1, hX.1.2.2.2.2⟩
  refine x_aload_n C dL_law_510 rfl ?_
  refine x_aload_n C dL_law_511 rfl ?_
  refine x_iload C dL_law_512 rfl ?_
  refine x_iconst (v := 1) C dL_law_514 (by decide) ?_
  refine x_iadd C dL_law_515 ?_
  refine w_sld C hz S dL_law_516 (vp_s (n := 1) (by omega) L3) ?_
  refine x_aload_n C dL_law_517 rfl ?_
  refine k_callSW (kc := kc + 0) (ks := ks + 0) (st := []) C E hX.1.1 gw_good (l6_readOut hX hS Z ho hV _) mw_L_readOut wt_L_readOut wm_L_104 dL_law_518 rfl (by decide) (by decide) rfl (by simp) (fun r => X.opn (fun g hg => ?_))
  obtain ⟨kv, mv, S1, rfl, mt, e0, ev, hq⟩ := hg
  have hM := hq.ma hM0 nu nad
  refine o_istoreE (L' := [some _, some _, some _, some _, some _, some _, l6, l7]) C dL_law_521 (by rw [hn]; decide) rfl ?_
  refine x_aload_n C dL_law_523 rfl ?_
  refine x_aload_n C dL_law_524 rfl ?_
  refine x_iload C dL_law_525 rfl ?_
  refine x_iconst (v := 1) C dL_law_527 (by decide) ?_
  refine x_iadd C dL_law_528 ?_
  refine w_sld C hz S dL_law_529 (vp_s (n := 1) (by omega) L3) ?_
  refine X.heap (A' := MA (c, o, ad, g) S0) ?_ (fun q e => by rw [e]; exact hM)
  refine w_callM (st := []) C E Y.1 (hWm g) (mt (c, o, ad, g) (hWm g)) rfl md_X7_readOut wi_X7_readOut ws_X7_readOut wm_L_106 dL_law_530 rfl (by decide) (by decide) rfl (by simp [Value.category]) ?_
  refine o_istoreE (L' := [some _, some _, some _, some _, some _, some _, some _, l7]) C dL_law_533 (by rw [hn]; decide) rfl ?_
  refine x_goto (tgt := 685) C dL_law_535 (by decide) ?_
  refine X.opn (fun g' hM' => ?_)
  exact (K g' _ _ _ (LJ.of hq ok nu nad hM')).room (by omega) (by omega)
theorem c6_decode (Q : LC5 w c z b L xs a o ad u t kc ks h) : X z (kc + 1050) (ks + 8040) (EQ h) 538 [some (.ref b), some (.ref (a 0)), some (.ref o), some (.ref u), some (.int (nI (7 * t))), l5, l6, l7] [] := by
  obtain ⟨hX, C, E, hz, S, ⟨tL, L3⟩, I, K⟩ := Q
  have Y := Cty.of hX.1 E
  have hn : z.nL = 8 := hz.2.2.2.1
  obtain ⟨S0, ⟨hS, α, f, κ, κd, ω, ωd, Z⟩, ⟨f1, ho⟩, hM0, ok, nu, nad⟩ := I
  have hV : VV o ad u u := Or.inl rfl
  have hWm : ∀ g : PH, Wm w (c, o, ad, g) := fun g => ⟨hX.1.1, ok, hX.1.2.1, hX.1.2.2.1, hX.1.2.2.2.1, hX.1.2.2.2.2⟩
  refine x_aload_n C dL_law_538 rfl ?_
  refine k_callR (kc := kc + 630) (ks := ks + 4821) (mc' := 420) (ms' := 3219) (st := []) C Y hX.1 E (zy_decode hX hS Z) rfl md_X6_decode wi_X6_decode ws_X6_decode wm_L_107 dL_law_539 rfl (by decide) (by decide) Z.x rfl rfl (by decide) (fun r g hg => ?_)
  obtain ⟨⟨v, rfl⟩, n, n1, n2, Zg⟩ := hg
  have hq := LX.of ho hV Zg
  have hM := hq.ma hM0 nu nad
  have mt : ∀ M : MW, Wm w M → _ := fun M hM => g_decode (M := M) hM hS n n1 n2
  refine x_pop C dL_law_542 rfl ?_
  refine x_aload_n C dL_law_543 rfl ?_
  refine X.heap (A' := MA (c, o, ad, g) S0) ?_ (fun q e => by rw [e]; exact hM)
  refine w_callM (st := []) C E Y.1 (hWm g) (mt (c, o, ad, g) (hWm g)) rfl md_X7_decode wi_X7_decode ws_X7_decode wm_L_110 dL_law_544 rfl (by decide) (by decide) rfl (by simp [Value.category]) ?_
  refine x_pop C dL_law_547 rfl ?_
  refine x_goto (tgt := 685) C dL_law_548 (by decide) ?_
  refine X.opn (fun g' hM' => ?_)
  exact (K g' _ _ _ (LJ.of hq ok nu nad hM')).room (by omega) (by omega)
theorem c6_place (Q : LC5 w c z b L xs a o ad u t kc ks h) : X z (kc + 1050) (ks + 8040) (EQ h) 551 [some (.ref b), some (.ref (a 0)), some (.ref o), some (.ref u), some (.int (nI (7 * t))), l5, l6, l7] [] := by
  obtain ⟨hX, C, E, hz, S, ⟨tL, L3⟩, I, K⟩ := Q
  have Y := Cty.of hX.1 E
  have hn : z.nL = 8 := hz.2.2.2.1
  obtain ⟨S0, ⟨hS, α, f, κ, κd, ω, ωd, Z⟩, ⟨f1, ho⟩, hM0, ok, nu, nad⟩ := I
  have hV : VV o ad u u := Or.inl rfl
  have hWm : ∀ g : PH, Wm w (c, o, ad, g) := fun g => ⟨hX.1.1, ok, hX.1.2.1, hX.1.2.2.1, hX.1.2.2.2.1, hX.1.2.2.2.2⟩
  refine x_aload_n C dL_law_551 rfl ?_
  refine k_callR (kc := kc + 1050) (ks := ks + 8040) (mc' := 0) (ms' := 0) (st := []) C Y hX.1 E (zy_place hX hS Z) rfl md_X6_place wi_X6_place ws_X6_place wm_L_111 dL_law_552 rfl (by decide) (by decide) Z.x rfl rfl (by decide) (fun r g hg => ?_)
  obtain ⟨⟨v, rfl⟩, Zg⟩ := hg
  have hq := LX.of ho hV Zg
  have hM := hq.ma hM0 nu nad
  have mt : ∀ M : MW, Wm w M → _ := fun M hM => s_place (M := M) (S := S0) hM
  refine x_pop C dL_law_555 rfl ?_
  refine x_aload_n C dL_law_556 rfl ?_
  refine X.heap (A' := MA (c, o, ad, g) S0) ?_ (fun q e => by rw [e]; exact hM)
  refine w_callM (st := []) C E Y.1 (hWm g) (mt (c, o, ad, g) (hWm g)) rfl md_X7_place wi_X7_place ws_X7_place wm_L_114 dL_law_557 rfl (by decide) (by decide) rfl (by simp [Value.category]) ?_
  refine x_pop C dL_law_560 rfl ?_
  refine x_goto (tgt := 685) C dL_law_561 (by decide) ?_
  refine X.opn (fun g' hM' => ?_)
  exact (K g' _ _ _ (LJ.of hq ok nu nad hM')).room (by omega) (by omega)
theorem c6_clear (Q : LC5 w c z b L xs a o ad u t kc ks h) : X z (kc + 1050) (ks + 8040) (EQ h) 564 [some (.ref b), some (.ref (a 0)), some (.ref o), some (.ref u), some (.int (nI (7 * t))), l5, l6, l7] [] := by
  obtain ⟨hX, C, E, hz, S, ⟨tL, L3⟩, I, K⟩ := Q
  have Y := Cty.of hX.1 E
  have hn : z.nL = 8 := hz.2.2.2.1
  obtain ⟨S0, ⟨hS, α, f, κ, κd, ω, ωd, Z⟩, ⟨f1, ho⟩, hM0, ok, nu, nad⟩ := I
  have hV : VV o ad u u := Or.inl rfl
  have hWm : ∀ g : PH, Wm w (c, o, ad, g) := fun g => ⟨hX.1.1, ok, hX.1.2.1, hX.1.2.2.1, hX.1.2.2.2.1, hX.1.2.2.2.2⟩
  refine x_aload_n C dL_law_564 rfl ?_
  refine k_callR (kc := kc + 1050) (ks := ks + 8040) (mc' := 0) (ms' := 0) (st := []) C Y hX.1 E (zy_clear hX hS Z) rfl md_X6_clear wi_X6_clear ws_X6_clear wm_L_115 dL_law_565 rfl (by decide) (by decide) Z.x rfl rfl (by decide) (fun r g hg => ?_)
  obtain ⟨rfl, Zg⟩ := hg
  have hq := LX.of ho hV Zg
  have hM := hq.ma hM0 nu nad
  have mt : ∀ M : MW, Wm w M → _ := fun M hM => s_clear (M := M) (S := S0) hM
  refine x_pop C dL_law_568 rfl ?_
  refine x_aload_n C dL_law_569 rfl ?_
  refine X.heap (A' := MA (c, o, ad, g) S0) ?_ (fun q e => by rw [e]; exact hM)
  refine w_callM (st := []) C E Y.1 (hWm g) (mt (c, o, ad, g) (hWm g)) rfl md_X7_clear wi_X7_clear ws_X7_clear wm_L_118 dL_law_570 rfl (by decide) (by decide) rfl (by simp [Value.category]) ?_
  refine x_pop C dL_law_573 rfl ?_
  refine x_goto (tgt := 685) C dL_law_574 (by decide) ?_
  refine X.opn (fun g' hM' => ?_)
  exact (K g' _ _ _ (LJ.of hq ok nu nad hM')).room (by omega) (by omega)
theorem c6_record (Q : LC5 w c z b L xs a o ad u t kc ks h) : X z (kc + 1050) (ks + 8040) (EQ h) 577 [some (.ref b), some (.ref (a 0)), some (.ref o), some (.ref u), some (.int (nI (7 * t))), l5, l6, l7] [] := by
  obtain ⟨hX, C, E, hz, S, ⟨tL, L3⟩, I, K⟩ := Q
  have Y := Cty.of hX.1 E
  have hn : z.nL = 8 := hz.2.2.2.1
  obtain ⟨S0, ⟨hS, α, f, κ, κd, ω, ωd, Z⟩, ⟨f1, ho⟩, hM0, ok, nu, nad⟩ := I
  have hV : VV o ad u u := Or.inl rfl
  have hWm : ∀ g : PH, Wm w (c, o, ad, g) := fun g => ⟨hX.1.1, ok, hX.1.2.1, hX.1.2.2.1, hX.1.2.2.2.1, hX.1.2.2.2.2⟩
  refine x_aload_n C dL_law_577 rfl ?_
  refine x_aload_n C dL_law_578 rfl ?_
  refine x_iload C dL_law_579 rfl ?_
  refine x_iconst (v := 1) C dL_law_581 (by decide) ?_
  refine x_iadd C dL_law_582 ?_
  refine w_sld C hz S dL_law_583 (vp_s (n := 1) (by omega) L3) ?_
  refine x_aload_n C dL_law_584 rfl ?_
  refine x_iload C dL_law_585 rfl ?_
  refine x_iconst (v := 2) C dL_law_587 (by decide) ?_
  refine x_iadd C dL_law_588 ?_
  refine w_sld C hz S dL_law_589 (vp_s (n := 2) (by omega) L3) ?_
  refine x_aload_n C dL_law_590 rfl ?_
  refine k_callSW (kc := kc + 1049) (ks := ks + 8034) (st := []) C E hX.1.1 gw_good (l6_record hX hS Z ho hV _ _) mw_L_record wt_L_record wm_L_119 dL_law_591 rfl (by decide) (by decide) rfl (by simp) (fun r => X.opn (fun g hg => ?_))
  obtain ⟨kv, mv, S1, rfl, mt, e0, ev, hq⟩ := hg
  have hM := hq.ma hM0 nu nad
  refine o_istoreE (L' := [some _, some _, some _, some _, some _, some _, l6, l7]) C dL_law_594 (by rw [hn]; decide) rfl ?_
  refine x_aload_n C dL_law_596 rfl ?_
  refine x_aload_n C dL_law_597 rfl ?_
  refine x_iload C dL_law_598 rfl ?_
  refine x_iconst (v := 1) C dL_law_600 (by decide) ?_
  refine x_iadd C dL_law_601 ?_
  refine w_sld C hz S dL_law_602 (vp_s (n := 1) (by omega) L3) ?_
  refine x_aload_n C dL_law_603 rfl ?_
  refine x_iload C dL_law_604 rfl ?_
  refine x_iconst (v := 2) C dL_law_606 (by decide) ?_
  refine x_iadd C dL_law_607 ?_
  refine w_sld C hz S dL_law_608 (vp_s (n := 2) (by omega) L3) ?_
  refine X.heap (A' := MA (c, o, ad, g) S0) ?_ (fun q e => by rw [e]; exact hM)
  refine w_callM (st := []) C E Y.1 (hWm g) (mt (c, o, ad, g) (hWm g)) rfl md_X7_record wi_X7_record ws_X7_record wm_L_121 dL_law_609 rfl (by decide) (by decide) rfl (by simp [Value.category]) ?_
  refine o_lstoreE (L' := [some _, some _, some _, some _, some _, some _, some _, none]) C dL_law_612 (by rw [hn]; decide) rfl ?_
  refine x_goto (tgt := 685) C dL_law_614 (by decide) ?_
  refine X.opn (fun g' hM' => ?_)
  exact (K g' _ _ _ (LJ.of hq ok nu nad hM')).room (by omega) (by omega)
theorem c6_text (Q : LC5 w c z b L xs a o ad u t kc ks h) : X z (kc + 1050) (ks + 8040) (EQ h) 617 [some (.ref b), some (.ref (a 0)), some (.ref o), some (.ref u), some (.int (nI (7 * t))), l5, l6, l7] [] := by
  obtain ⟨hX, C, E, hz, S, ⟨tL, L3⟩, I, K⟩ := Q
  have Y := Cty.of hX.1 E
  have hn : z.nL = 8 := hz.2.2.2.1
  obtain ⟨S0, ⟨hS, α, f, κ, κd, ω, ωd, Z⟩, ⟨f1, ho⟩, hM0, ok, nu, nad⟩ := I
  have hV : VV o ad u u := Or.inl rfl
  have hWm : ∀ g : PH, Wm w (c, o, ad, g) := fun g => ⟨hX.1.1, ok, hX.1.2.1, hX.1.2.2.1, hX.1.2.2.2.1, hX.1.2.2.2.2⟩
  refine x_aload_n C dL_law_617 rfl ?_
  refine x_aload_n C dL_law_618 rfl ?_
  refine x_iload C dL_law_619 rfl ?_
  refine x_iconst (v := 1) C dL_law_621 (by decide) ?_
  refine x_iadd C dL_law_622 ?_
  refine w_sld C hz S dL_law_623 (vp_s (n := 1) (by omega) L3) ?_
  refine x_aload_n C dL_law_624 rfl ?_
  refine x_iload C dL_law_625 rfl ?_
  refine x_iconst (v := 2) C dL_law_627 (by decide) ?_
  refine x_iadd C dL_law_628 ?_
  refine w_sld C hz S dL_law_629 (vp_s (n := 2) (by omega) L3) ?_
  refine x_aload_n C dL_law_630 rfl ?_
  refine k_callSW (kc := kc + 1049) (ks := ks + 8034) (st := []) C E hX.1.1 gw_good (l6_text hX hS Z ho hV _ _) mw_L_text wt_L_text wm_L_122 dL_law_631 rfl (by decide) (by decide) rfl (by simp) (fun r => X.opn (fun g hg => ?_))
  obtain ⟨kv, mv, S1, rfl, mt, e0, ev, hq⟩ := hg
  have hM := hq.ma hM0 nu nad
  refine o_istoreE (L' := [some _, some _, some _, some _, some _, some _, l6, l7]) C dL_law_634 (by rw [hn]; decide) rfl ?_
  refine x_aload_n C dL_law_636 rfl ?_
  refine x_aload_n C dL_law_637 rfl ?_
  refine x_iload C dL_law_638 rfl ?_
  refine x_iconst (v := 1) C dL_law_640 (by decide) ?_
  refine x_iadd C dL_law_641 ?_
  refine w_sld C hz S dL_law_642 (vp_s (n := 1) (by omega) L3) ?_
  refine x_aload_n C dL_law_643 rfl ?_
  refine x_iload C dL_law_644 rfl ?_
  refine x_iconst (v := 2) C dL_law_646 (by decide) ?_
  refine x_iadd C dL_law_647 ?_
  refine w_sld C hz S dL_law_648 (vp_s (n := 2) (by omega) L3) ?_
  refine X.heap (A' := MA (c, o, ad, g) S0) ?_ (fun q e => by rw [e]; exact hM)
  refine w_callM (st := []) C E Y.1 (hWm g) (mt (c, o, ad, g) (hWm g)) rfl md_X7_text wi_X7_text ws_X7_text wm_L_124 dL_law_649 rfl (by decide) (by decide) rfl (by simp [Value.category]) ?_
  refine o_istoreE (L' := [some _, some _, some _, some _, some _, some _, some _, l7]) C dL_law_652 (by rw [hn]; decide) rfl ?_
  refine x_goto (tgt := 685) C dL_law_654 (by decide) ?_
  refine X.opn (fun g' hM' => ?_)
  exact (K g' _ _ _ (LJ.of hq ok nu nad hM')).room (by omega) (by omega)
theorem c6_count (Q : LC5 w c z b L xs a o ad u t kc ks h) : X z (kc + 1050) (ks + 8040) (EQ h) 657 [some (.ref b), some (.ref (a 0)), some (.ref o), some (.ref u), some (.int (nI (7 * t))), l5, l6, l7] [] := by
  obtain ⟨hX, C, E, hz, S, ⟨tL, L3⟩, I, K⟩ := Q
  have Y := Cty.of hX.1 E
  have hn : z.nL = 8 := hz.2.2.2.1
  obtain ⟨S0, ⟨hS, α, f, κ, κd, ω, ωd, Z⟩, ⟨f1, ho⟩, hM0, ok, nu, nad⟩ := I
  have hV : VV o ad u u := Or.inl rfl
  have hWm : ∀ g : PH, Wm w (c, o, ad, g) := fun g => ⟨hX.1.1, ok, hX.1.2.1, hX.1.2.2.1, hX.1.2.2.2.1, hX.1.2.2.2.2⟩
  refine x_aload_n C dL_law_657 rfl ?_
  refine x_aload_n C dL_law_658 rfl ?_
  refine x_iload C dL_law_659 rfl ?_
  refine x_iconst (v := 1) C dL_law_661 (by decide) ?_
  refine x_iadd C dL_law_662 ?_
  refine w_sld C hz S dL_law_663 (vp_s (n := 1) (by omega) L3) ?_
  refine x_aload_n C dL_law_664 rfl ?_
  refine k_callSW (kc := kc + 1049) (ks := ks + 8034) (st := []) C E hX.1.1 gw_good (l6_count hX hS Z ho hV _) mw_L_count wt_L_count wm_L_125 dL_law_665 rfl (by decide) (by decide) rfl (by simp) (fun r => X.opn (fun g hg => ?_))
  obtain ⟨kv, mv, S1, rfl, mt, e0, ev, hq⟩ := hg
  have hM := hq.ma hM0 nu nad
  refine o_istoreE (L' := [some _, some _, some _, some _, some _, some _, l6, l7]) C dL_law_668 (by rw [hn]; decide) rfl ?_
  refine x_aload_n C dL_law_670 rfl ?_
  refine x_aload_n C dL_law_671 rfl ?_
  refine x_iload C dL_law_672 rfl ?_
  refine x_iconst (v := 1) C dL_law_674 (by decide) ?_
  refine x_iadd C dL_law_675 ?_
  refine w_sld C hz S dL_law_676 (vp_s (n := 1) (by omega) L3) ?_
  refine X.heap (A' := MA (c, o, ad, g) S0) ?_ (fun q e => by rw [e]; exact hM)
  refine w_callM (st := []) C E Y.1 (hWm g) (mt (c, o, ad, g) (hWm g)) rfl md_X7_count wi_X7_count ws_X7_count wm_L_127 dL_law_677 rfl (by decide) (by decide) rfl (by simp [Value.category]) ?_
  refine o_istoreE (L' := [some _, some _, some _, some _, some _, some _, some _, l7]) C dL_law_680 (by rw [hn]; decide) rfl ?_
  refine x_goto (tgt := 685) C dL_law_682 (by decide) ?_
  refine X.opn (fun g' hM' => ?_)
  exact (K g' _ _ _ (LJ.of hq ok nu nad hM')).room (by omega) (by omega)
end Cases
end
