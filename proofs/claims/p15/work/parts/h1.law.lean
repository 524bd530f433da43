/-! The law's own methods, over a MeterBus and a model of one state. -/
section ZV
variable {c : Nat → ClassId} {a : Nat → Nat} {h9 : PH} {V : Nat → Prop} {α : Nat → Int64} {f : Nat → Option Nat} {κ κd ω ωd : Nat → Nat} {S : MS} {h g : PH}
theorem ZZ.base (Z : ZZ c a h9 V α f κ κd h) : ZZ c a h V α f κ κd h := by
  obtain ⟨z1, z2, z3, z4, z5, z6, z7, z8, z9⟩ := Z
  exact ⟨z1, z2, z3, z4, z5, z6, z7, z8, fun q hq => by obtain ⟨x1, x2, x3, x4, x5⟩ := z9 q hq; exact ⟨x1, x2, x3, by rw [x5]; exact x4, rfl⟩⟩
theorem ZZ.st (Z : ZZ c a h9 V α f κ κd h) {q : Nat} (hq : V q) : h q = h9 q := (Z.2.2.2.2.2.2.2.2 q hq).2.2.2.2
theorem ZZ.na (Z : ZZ c a h9 V α f κ κd h) {q : Nat} (hq : V q) : κ q = 0 ∧ κd q = 0 ∧ ∀ i, i ≤ 10 → q ≠ a i := ⟨(Z.2.2.2.2.2.2.2.2 q hq).1, (Z.2.2.2.2.2.2.2.2 q hq).2.1, (Z.2.2.2.2.2.2.2.2 q hq).2.2.1⟩
/-- what is not the class's may be written -/
theorem ZZ.putV {g : PH} (Z : ZZ c a h9 V α f κ κd h) (e : ∀ q, ¬ V q → g q = h q) (n : ∀ q, V q → g q ≠ none) : ZZ c a g V α f κ κd g := by
  have nv : ∀ i, i ≤ 10 → ¬ V (a i) := fun i hi hv => (Z.na hv).2.2 i hi rfl
  have ea : ∀ i, i ≤ 10 → g (a i) = h (a i) := fun i hi => e _ (nv i hi)
  obtain ⟨z1, ⟨gr, nr, ⟨r1, r2, r3, r4⟩, hb⟩, z3, z4, z5, z6, z7, z8, z9⟩ := id Z
  refine ⟨by rw [ea 0 (by omega)]; exact z1, ⟨gr, nr, ⟨r1, by rw [ea 1 (by omega)]; exact r2, by rw [ea 2 (by omega)]; exact r3, r4⟩, hb⟩, by rw [ea 10 (by omega)]; exact z3, z4.move (fun q hq => ?_), z5.move (fun q hq => ?_), z6, z7, z8, fun q hq => ?_⟩
  · rcases hq with rfl | rfl | rfl | rfl | hq
    · exact ea 3 (by omega)
    · exact ea 4 (by omega)
    · exact ea 5 (by omega)
    · exact ea 6 (by omega)
    · exact e q (fun hv => hq (Z.na hv).1)
  · rcases hq with rfl | rfl | rfl | hq
    · exact ea 7 (by omega)
    · exact ea 8 (by omega)
    · exact ea 9 (by omega)
    · exact e q (fun hv => hq (Z.na hv).2.1)
  · obtain ⟨x1, x2, x3, -⟩ := z9 q hq
    exact ⟨x1, x2, x3, n q hq, rfl⟩
theorem ZI.base (Z : ZI c a h9 V α f κ κd ω ωd S h) : ZI c a h V α f κ κd ω ωd S h := ⟨Z.1.base, Z.2⟩
/-- what is not the class's may be written -/
theorem ZI.putV (Z : ZI c a h9 V α f κ κd ω ωd S h) (e : ∀ q, ¬ V q → g q = h q) (n : ∀ q, V q → g q ≠ none) : ZI c a g V α f κ κd ω ωd S g := by
  obtain ⟨z1, z2, z3, z4, z5, z6, z7, z8⟩ := Z
  have ea : ∀ i, i ≤ 10 → g (a i) = h (a i) := fun i hi => e _ (fun hv => (z1.na hv).2.2 i hi rfl)
  refine ⟨z1.putV e n, z2, z3, z4.same (fun q hq => e q (fun hv => z4.1 q hq (z1.na hv).1)) (fun _ _ _ => rfl), ?_, z6.go (ea 1 (by omega)) (ea 2 (by omega)) rfl (fun _ => rfl), z7.go (ea 0 (by omega)) (ea 10 (by omega)) rfl (fun _ => rfl), z8.go (ea 7 (by omega)) (ea 8 (by omega)) (fun q hq => e q (fun hv => z8.1 q hq (z1.na hv).2.1)) (LSx.rf S)⟩
  rw [EU, ea 3 (by omega)]
  exact z5
end ZV
/-- behind a call of the law's own methods -/
def LX (c : Nat → ClassId) (a : Nat → Nat) (V : Nat → Prop) (o : Nat) (S : MS) (h g : PH) : Prop := (∃ f1, OU c o f1 g) ∧ ZQ c a g V S g ∧ ∀ q, V q → q ≠ o → g q = h q
section Law
variable {w : Wd} {c : Nat → ClassId} {a : Nat → Nat} {V : Nat → Prop} {α : Nat → Int64} {f : Nat → Option Nat} {κ κd ω ωd : Nat → Nat} {S S' : MS} {h : PH} {o : Nat} {f0 : Nat → Int64}
theorem ZQ.at {g : PH} (hV : V o) (Z : ZQ c a h V S' g) : g o = h o := by
  obtain ⟨-, α, f, κ, κd, ω, ωd, Z⟩ := Z
  exact Z.1.st hV
theorem LX.of {g : PH} (ho : OU c o f0 h) (hV : V o) (Z : ZQ c a h V S' g) : LX c a V o S' h g := by
  have e := Z.at hV
  obtain ⟨hS, α, f, κ, κd, ω, ωd, Z⟩ := Z
  exact ⟨⟨f0, by show g o = _; rw [e]; exact ho⟩, ⟨hS, α, f, κ, κd, ω, ωd, Z.base⟩, fun q hq _ => Z.1.st hq⟩
theorem LX.put {g : PH} (hV : V o) (Z : ZQ c a h V S' g) (f1 : Nat → Int64) : LX c a V o S' h (hs g o (.inl (c 1, 1, .inr (.inl f1)))) := by
  obtain ⟨hS, α, f, κ, κd, ω, ωd, Z⟩ := Z
  refine ⟨⟨f1, hs_self ..⟩, ⟨hS, α, f, κ, κd, ω, ωd, Z.putV (fun q hq => hs_ne (fun e => hq (by rw [e]; exact hV))) (fun q hq => ?_)⟩, fun q hq n => by rw [hs_ne n]; exact Z.1.st hq⟩
  by_cases e : q = o
  · subst e; rw [hs_self]; exact nofun
  · rw [hs_ne e, Z.1.st hq]; exact (Z.1.2.2.2.2.2.2.2.2 q hq).2.2.2.1
theorem l6_type (hX : Wx w c) (hS : MH S) (Z : ZI c a h V α f κ κd ω ωd S h) (ho : OU c o f0 h) (hV : V o) (b : Int64) (n : Int32) : TW w gw yL_type cL_type 6 (some .int) hL_type 9 (40 * 9) 1 6 [.ref (a 0), .long b, .int n, .ref o] (EQ h) (fun r g => ∃ (kv : Int32) (mv : Int32) (S' : MS), r = some (.int kv) ∧ (∀ M, Wm w M → TF w M yX7_type cX7_type 5 (some .int) 1 [.long b, .int n] S (some (.int mv)) S') ∧ S'.i 0 = kv ∧ (kv = 0 → ∃ f1, OU c o f1 g ∧ f1 0 = mv.toInt64) ∧ LX c a V o S' h g) := by
  have hW := hX.1
  have Bx := Z.x
  refine TW.intro (by decide +kernel) (Nat.le_of_ble_eq_true rfl) (fun z C E tb hn => ?_)
  have Y := Cty.of hW E.cs
  refine x_aload C dL_type_0 rfl ?_
  refine x_iconst (v := 0) C dL_type_2 (by decide) ?_
  refine x_aload_n C dL_type_3 rfl ?_
  refine x_lload_n C dL_type_4 rfl ?_
  refine x_iload_n C dL_type_5 rfl ?_
  refine x_callVX (kc := 0) (ks := 0) (st := [.int 0, .ref o]) C E.cs hX.1.1 gw_good (zy_type hX hS Z b n) md_X6_type wi_X6_type ws_X6_type wm_L_7 dL_type_6 rfl (by decide) (by decide) (fun g e => by rw [e]; exact Bx) (by rw [Y.1]; rfl) rfl (by simp [Value.category]) (fun En => ?_) (fun r => X.opn (fun g hg => ?_))
  · by_cases e : En = IAE
    · subst e
      refine x_catch (name := IAE) C [] ⟨0, 11, 14, 13⟩ [⟨0, 11, 18, 15⟩] (by rw [tb]; rfl) (fun q hq => nomatch hq) (by decide) (by decide) wc_L_13 ((E.cs.gx hX).2.2.1 _ exs_IAE) (fun q => X.opn (fun g hg => ?_))
      obtain ⟨v9, S9, mt, hc, Zg⟩ := hg
      have e0 : S9.i 0 = 1 := hc.elim (fun y => y.2) (fun y => absurd y.1 (by decide))
      refine o_astoreE C dL_type_14 (by rw [hn]; decide) rfl ?_
      refine x_iconst (v := 1) C dL_type_16 (by decide) ?_
      exact x_iret C E dL_type_17 (fun g9 e => ⟨_, v9, S9, rfl, mt, e0, fun q => absurd q (by decide), by rw [show g9 = g from e]; exact LX.of ho hV Zg⟩)
    by_cases e2 : En = UOE
    · subst e2
      refine x_catch (name := UOE) C [⟨0, 11, 14, 13⟩] ⟨0, 11, 18, 15⟩ [] (by rw [tb]; rfl) (fun q hq => by rw [List.mem_singleton.mp hq]; exact Or.inr ⟨by decide, IAE, wc_L_13, (E.cs.gx hX).2.2.2.1 _ exs_UOE _ exs_IAE (by decide)⟩) (by decide) (by decide) wc_L_15 ((E.cs.gx hX).2.2.1 _ exs_UOE) (fun q => X.opn (fun g hg => ?_))
      obtain ⟨v9, S9, mt, hc, Zg⟩ := hg
      have e0 : S9.i 0 = 2 := hc.elim (fun y => absurd y.1 (by decide)) (fun y => y.2)
      refine o_astoreE C dL_type_18 (by rw [hn]; decide) rfl ?_
      refine x_iconst (v := 2) C dL_type_20 (by decide) ?_
      exact x_iret C E dL_type_21 (fun g9 e => ⟨_, v9, S9, rfl, mt, e0, fun q => absurd q (by decide), by rw [show g9 = g from e]; exact LX.of ho hV Zg⟩)
    exact Xc.no (fun g hg => by obtain ⟨v9, S9, mt, hc, -⟩ := hg; exact hc.elim (fun y => e y.1) (fun y => e2 y.1))
  · obtain ⟨v9, S9, rfl, mt, e0, Zg⟩ := hg
    refine x_i2l C dL_type_9 ?_
    refine e_lst C Y dL_type_10 (by rw [Zg.at hV]; exact ho) (vp_in_nI (n := 0) (N := 1) (by decide) (by decide)) ?_
    refine x_goto (tgt := 22) C dL_type_11 (by decide) ?_
    refine x_iconst (v := 0) C dL_type_22 (by decide) ?_
    exact x_iret C E dL_type_23 (fun g9 e => ⟨_, v9, S9, rfl, mt, e0, fun _ => ⟨vp_updL f0 (Int32.toNatClampNeg 0) v9.toInt64, by rw [show g9 = _ from e]; exact hs_self .., rfl⟩, by rw [show g9 = _ from e]; exact LX.put hV Zg _⟩)
theorem l6_keep (hX : Wx w c) (hS : MH S) (Z : ZI c a h V α f κ κd ω ωd S h) (ho : OU c o f0 h) (hV : V o) (n : Int32) : TW w gw yL_keep cL_keep 3 (some .int) hL_keep 9 (40 * 9) 1 6 [.ref (a 0), .int n] (EQ h) (fun r g => ∃ (kv : Int32) (S' : MS), r = some (.int kv) ∧ (∀ M, Wm w M → TF w M yX7_keep cX7_keep 2 none 1 [.int n] S none S') ∧ S'.i 0 = kv ∧ LX c a V o S' h g) := by
  have hW := hX.1
  have Bx := Z.x
  refine TW.intro (by decide +kernel) (Nat.le_of_ble_eq_true rfl) (fun z C E tb hn => ?_)
  have Y := Cty.of hW E.cs
  refine x_aload_n C dL_keep_0 rfl ?_
  refine x_iload_n C dL_keep_1 rfl ?_
  refine x_callVX (kc := 0) (ks := 0) (st := []) C E.cs hX.1.1 gw_good (zy_keep hX hS Z n) md_X6_keep wi_X6_keep ws_X6_keep wm_L_17 dL_keep_2 rfl (by decide) (by decide) (fun g e => by rw [e]; exact Bx) (by rw [Y.1]; rfl) rfl (by simp [Value.category]) (fun En => ?_) (fun r => X.opn (fun g hg => ?_))
  · by_cases e : En = IAE
    · subst e
      refine x_catch (name := IAE) C [] ⟨0, 5, 8, 13⟩ [] (by rw [tb]; rfl) (fun q hq => nomatch hq) (by decide) (by decide) wc_L_13 ((E.cs.gx hX).2.2.1 _ exs_IAE) (fun q => X.opn (fun g hg => ?_))
      obtain ⟨S9, mt, ⟨-, e0⟩, Zg⟩ := hg
      refine o_astore_nE C dL_keep_8 (by rw [hn]; decide) rfl ?_
      refine x_iconst (v := 1) C dL_keep_9 (by decide) ?_
      exact x_iret C E dL_keep_10 (fun g9 e => ⟨_, S9, rfl, mt, e0, by rw [show g9 = g from e]; exact LX.of ho hV Zg⟩)
    · exact Xc.no (fun g hg => by obtain ⟨S9, mt, ⟨e9, -⟩, -⟩ := hg; exact e e9)
  · obtain ⟨rfl, S9, mt, e0, Zg⟩ := hg
    refine x_goto (tgt := 11) C dL_keep_5 (by decide) ?_
    refine x_iconst (v := 0) C dL_keep_11 (by decide) ?_
    exact x_iret C E dL_keep_12 (fun g9 e => ⟨_, S9, rfl, mt, e0, by rw [show g9 = _ from e]; exact LX.of ho hV Zg⟩)
theorem l6_typed (hX : Wx w c) (hS : MH S) (Z : ZI c a h V α f κ κd ω ωd S h) (ho : OU c o f0 h) (hV : V o) (i : Int32) : TW w gw yL_typed cL_typed 4 (some .int) hL_typed 9 (40 * 9) 1 6 [.ref (a 0), .int i, .ref o] (EQ h) (fun r g => ∃ (kv : Int32) (mv : Int32) (S' : MS), r = some (.int kv) ∧ (∀ M, Wm w M → TF w M yX7_typed cX7_typed 2 (some .int) 1 [.int i] S (some (.int mv)) S') ∧ S'.i 0 = kv ∧ (kv = 0 → ∃ f1, OU c o f1 g ∧ f1 0 = mv.toInt64) ∧ LX c a V o S' h g) := by
  have hW := hX.1
  have Bx := Z.x
  refine TW.intro (by decide +kernel) (Nat.le_of_ble_eq_true rfl) (fun z C E tb hn => ?_)
  have Y := Cty.of hW E.cs
  refine x_aload_n C dL_typed_0 rfl ?_
  refine x_iconst (v := 0) C dL_typed_1 (by decide) ?_
  refine x_aload_n C dL_typed_2 rfl ?_
  refine x_iload_n C dL_typed_3 rfl ?_
  refine x_callVX (kc := 0) (ks := 0) (st := [.int 0, .ref o]) C E.cs hX.1.1 gw_good (zy_typed hX hS Z i) md_X6_typed wi_X6_typed ws_X6_typed wm_L_21 dL_typed_4 rfl (by decide) (by decide) (fun g e => by rw [e]; exact Bx) (by rw [Y.1]; rfl) rfl (by simp [Value.category]) (fun En => ?_) (fun r => X.opn (fun g hg => ?_))
  · by_cases e : En = IOE
    · subst e
      refine x_catch (name := IOE) C [] ⟨0, 9, 12, 25⟩ [] (by rw [tb]; rfl) (fun q hq => nomatch hq) (by decide) (by decide) wc_L_25 ((E.cs.gx hX).2.2.1 _ exs_IOE) (fun q => X.opn (fun g hg => ?_))
      obtain ⟨v9, S9, mt, ⟨-, e0⟩, Zg⟩ := hg
      refine o_astore_nE C dL_typed_12 (by rw [hn]; decide) rfl ?_
      refine x_iconst (v := 1) C dL_typed_13 (by decide) ?_
      exact x_iret C E dL_typed_14 (fun g9 e => ⟨_, v9, S9, rfl, mt, e0, fun q => absurd q (by decide), by rw [show g9 = g from e]; exact LX.of ho hV Zg⟩)
    · exact Xc.no (fun g hg => by obtain ⟨v9, S9, mt, ⟨e9, -⟩, -⟩ := hg; exact e e9)
  · obtain ⟨v9, S9, rfl, mt, e0, Zg⟩ := hg
    refine x_i2l C dL_typed_7 ?_
    refine e_lst C Y dL_typed_8 (by rw [Zg.at hV]; exact ho) (vp_in_nI (n := 0) (N := 1) (by decide) (by decide)) ?_
    refine x_goto (tgt := 15) C dL_typed_9 (by decide) ?_
    refine x_iconst (v := 0) C dL_typed_15 (by decide) ?_
    exact x_iret C E dL_typed_16 (fun g9 e => ⟨_, v9, S9, rfl, mt, e0, fun _ => ⟨vp_updL f0 (Int32.toNatClampNeg 0) v9.toInt64, by rw [show g9 = _ from e]; exact hs_self .., rfl⟩, by rw [show g9 = _ from e]; exact LX.put hV Zg _⟩)
theorem l6_meter (hX : Wx w c) (hS : MH S) (Z : ZI c a h V α f κ κd ω ωd S h) (ho : OU c o f0 h) (hV : V o) (k : Int32) (ad : Int32) (i : Int32) (mk : Int32) (v : Int32) (d : Int32) : TW w gw yL_meter cL_meter 8 (some .int) hL_meter 9 (40 * 9) 6 194 [.ref (a 0), .int k, .int ad, .int i, .int mk, .int v, .int d] (EQ h) (fun r g => ∃ (kv : Int32) (S' : MS), r = some (.int kv) ∧ (∀ M, Wm w M → TF w M yX7_meter cX7_meter 11 none 1 [.int k, .int ad, .int i, .int mk, .int v, .int d] S none S') ∧ S'.i 0 = kv ∧ LX c a V o S' h g) := by
  have hW := hX.1
  have Bx := Z.x
  refine TW.intro (by decide +kernel) (Nat.le_of_ble_eq_true rfl) (fun z C E tb hn => ?_)
  have Y := Cty.of hW E.cs
  refine x_aload_n C dL_meter_0 rfl ?_
  refine x_iload_n C dL_meter_1 rfl ?_
  refine x_iload_n C dL_meter_2 rfl ?_
  refine x_iload_n C dL_meter_3 rfl ?_
  refine x_iload C dL_meter_4 rfl ?_
  refine x_iload C dL_meter_6 rfl ?_
  refine x_iload C dL_meter_8 rfl ?_
  refine x_callVX (kc := 0) (ks := 0) (st := []) C E.cs hX.1.1 gw_good (zy_meter hX hS Z k ad i mk v d) md_X6_meter wi_X6_meter ws_X6_meter wm_L_27 dL_meter_10 rfl (by decide) (by decide) (fun g e => by rw [e]; exact Bx) (by rw [Y.1]; rfl) rfl (by simp [Value.category]) (fun En => ?_) (fun r => X.opn (fun g hg => ?_))
  · by_cases e : En = IOE
    · subst e
      refine x_catch (name := IOE) C [] ⟨0, 13, 16, 25⟩ [⟨0, 13, 20, 13⟩] (by rw [tb]; rfl) (fun q hq => nomatch hq) (by decide) (by decide) wc_L_25 ((E.cs.gx hX).2.2.1 _ exs_IOE) (fun q => X.opn (fun g hg => ?_))
      obtain ⟨S9, mt, hc, Zg⟩ := hg
      have e0 : S9.i 0 = 1 := hc.elim (fun y => y.2) (fun y => absurd y.1 (by decide))
      refine o_astoreE C dL_meter_16 (by rw [hn]; decide) rfl ?_
      refine x_iconst (v := 1) C dL_meter_18 (by decide) ?_
      exact x_iret C E dL_meter_19 (fun g9 e => ⟨_, S9, rfl, mt, e0, by rw [show g9 = g from e]; exact LX.of ho hV Zg⟩)
    by_cases e2 : En = IAE
    · subst e2
      refine x_catch (name := IAE) C [⟨0, 13, 16, 25⟩] ⟨0, 13, 20, 13⟩ [] (by rw [tb]; rfl) (fun q hq => by rw [List.mem_singleton.mp hq]; exact Or.inr ⟨by decide, IOE, wc_L_25, (E.cs.gx hX).2.2.2.1 _ exs_IAE _ exs_IOE (by decide)⟩) (by decide) (by decide) wc_L_13 ((E.cs.gx hX).2.2.1 _ exs_IAE) (fun q => X.opn (fun g hg => ?_))
      obtain ⟨S9, mt, hc, Zg⟩ := hg
      have e0 : S9.i 0 = 2 := hc.elim (fun y => absurd y.1 (by decide)) (fun y => y.2)
      refine o_astoreE C dL_meter_20 (by rw [hn]; decide) rfl ?_
      refine x_iconst (v := 2) C dL_meter_22 (by decide) ?_
      exact x_iret C E dL_meter_23 (fun g9 e => ⟨_, S9, rfl, mt, e0, by rw [show g9 = g from e]; exact LX.of ho hV Zg⟩)
    exact Xc.no (fun g hg => by obtain ⟨S9, mt, hc, -⟩ := hg; exact hc.elim (fun y => e y.1) (fun y => e2 y.1))
  · obtain ⟨rfl, S9, mt, e0, Zg⟩ := hg
    refine x_goto (tgt := 24) C dL_meter_13 (by decide) ?_
    refine x_iconst (v := 0) C dL_meter_24 (by decide) ?_
    exact x_iret C E dL_meter_25 (fun g9 e => ⟨_, S9, rfl, mt, e0, by rw [show g9 = _ from e]; exact LX.of ho hV Zg⟩)
theorem l6_remove (hX : Wx w c) (hS : MH S) (Z : ZI c a h V α f κ κd ω ωd S h) (ho : OU c o f0 h) (hV : V o) (k : Int32) : TW w gw yL_remove cL_remove 4 (some .int) hL_remove 9 (40 * 9) 1 6 [.ref (a 0), .int k, .ref o] (EQ h) (fun r g => ∃ (kv : Int32) (mv : Int32) (S' : MS), r = some (.int kv) ∧ (∀ M, Wm w M → TF w M yX7_remove cX7_remove 3 (some .boolean) 1 [.int k] S (some (.int mv)) S') ∧ S'.i 0 = kv ∧ (kv = 0 → ∃ f1, OU c o f1 g ∧ f1 0 = if mv = 0 then 0 else 1) ∧ LX c a V o S' h g) := by
  have hW := hX.1
  have Bx := Z.x
  refine TW.intro (by decide +kernel) (Nat.le_of_ble_eq_true rfl) (fun z C E tb hn => ?_)
  have Y := Cty.of hW E.cs
  refine x_aload_n C dL_remove_0 rfl ?_
  refine x_iconst (v := 0) C dL_remove_1 (by decide) ?_
  refine x_aload_n C dL_remove_2 rfl ?_
  refine x_iload_n C dL_remove_3 rfl ?_
  refine x_callVX (kc := 0) (ks := 0) (st := [.int 0, .ref o]) C E.cs hX.1.1 gw_good (zy_remove hX hS Z k) md_X6_remove wi_X6_remove ws_X6_remove wm_L_31 dL_remove_4 rfl (by decide) (by decide) (fun g e => by rw [e]; exact Bx) (by rw [Y.1]; rfl) rfl (by simp [Value.category]) (fun En => ?_) (fun r => X.opn (fun g hg => ?_))
  · by_cases e : En = IOE
    · subst e
      refine x_catch (name := IOE) C [] ⟨0, 16, 19, 25⟩ [] (by rw [tb]; rfl) (fun q hq => nomatch hq) (by decide) (by decide) wc_L_25 ((E.cs.gx hX).2.2.1 _ exs_IOE) (fun q => X.opn (fun g hg => ?_))
      obtain ⟨v9, S9, mt, ⟨-, e0⟩, Zg⟩ := hg
      refine o_astore_nE C dL_remove_19 (by rw [hn]; decide) rfl ?_
      refine x_iconst (v := 1) C dL_remove_20 (by decide) ?_
      exact x_iret C E dL_remove_21 (fun g9 e => ⟨_, v9, S9, rfl, mt, e0, fun q => absurd q (by decide), by rw [show g9 = g from e]; exact LX.of ho hV Zg⟩)
    · exact Xc.no (fun g hg => by obtain ⟨v9, S9, mt, ⟨e9, -⟩, -⟩ := hg; exact e e9)
  · obtain ⟨v9, S9, rfl, v01, mt, e0, Zg⟩ := hg
    have T15 : ∀ (L : List (Option Value)) (x : Int64), x = (if v9 = 0 then 0 else 1) → X z 0 0 (EQ g) 15 L [.long x, .int 0, .ref o] := fun L x ex => by
      refine e_lst C Y dL_remove_15 (by rw [Zg.at hV]; exact ho) (vp_in_nI (n := 0) (N := 1) (by decide) (by decide)) ?_
      refine x_goto (tgt := 22) C dL_remove_16 (by decide) ?_
      refine x_iconst (v := 0) C dL_remove_22 (by decide) ?_
      exact x_iret C E dL_remove_23 (fun g9 e => ⟨_, v9, S9, rfl, mt, e0, fun _ => ⟨vp_updL f0 (Int32.toNatClampNeg 0) x, by rw [show g9 = _ from e]; exact hs_self .., by rw [← ex]; rfl⟩, by rw [show g9 = _ from e]; exact LX.put hV Zg _⟩)
    refine x_if_eq (tgt := 14) C dL_remove_7 (by decide) (fun q7 => ?_) (fun q7 => ?_)
    · exact x_lconst (v := 0) C dL_remove_14 (by decide) (T15 _ _ (by rw [if_pos q7]))
    · refine x_lconst (v := 1) C dL_remove_10 (by decide) ?_
      exact x_goto (tgt := 15) C dL_remove_11 (by decide) (T15 _ _ (by rw [if_neg q7]))
theorem l6_page (hX : Wx w c) (hS : MH S) (Z : ZI c a h V α f κ κd ω ωd S h) (ho : OU c o f0 h) (hV : V o) (k : Int32) (i : Int32) : TW w gw yL_page cL_page 5 (some .int) hL_page 9 (40 * 9) 1 6 [.ref (a 0), .int k, .int i, .ref o] (EQ h) (fun r g => ∃ (kv : Int32) (mv : Int32) (S' : MS), r = some (.int kv) ∧ (∀ M, Wm w M → TF w M yX7_page cX7_page 4 (some .int) 2 [.int k, .int i] S (some (.int mv)) S') ∧ S'.i 0 = kv ∧ (kv = 0 → ∃ f1, OU c o f1 g ∧ f1 0 = mv.toInt64) ∧ LX c a V o S' h g) := by
  have hW := hX.1
  have Bx := Z.x
  refine TW.intro (by decide +kernel) (Nat.le_of_ble_eq_true rfl) (fun z C E tb hn => ?_)
  have Y := Cty.of hW E.cs
  refine x_aload_n C dL_page_0 rfl ?_
  refine x_iconst (v := 0) C dL_page_1 (by decide) ?_
  refine x_aload_n C dL_page_2 rfl ?_
  refine x_iload_n C dL_page_3 rfl ?_
  refine x_iload_n C dL_page_4 rfl ?_
  refine x_callVX (kc := 0) (ks := 0) (st := [.int 0, .ref o]) C E.cs hX.1.1 gw_good (zy_page hX hS Z k i) md_X6_page wi_X6_page ws_X6_page wm_L_35 dL_page_5 rfl (by decide) (by decide) (fun g e => by rw [e]; exact Bx) (by rw [Y.1]; rfl) rfl (by simp [Value.category]) (fun En => ?_) (fun r => X.opn (fun g hg => ?_))
  · by_cases e : En = IOE
    · subst e
      refine x_catch (name := IOE) C [] ⟨0, 10, 13, 25⟩ [⟨0, 10, 17, 15⟩] (by rw [tb]; rfl) (fun q hq => nomatch hq) (by decide) (by decide) wc_L_25 ((E.cs.gx hX).2.2.1 _ exs_IOE) (fun q => X.opn (fun g hg => ?_))
      obtain ⟨v9, S9, mt, hc, Zg⟩ := hg
      have e0 : S9.i 0 = 1 := hc.elim (fun y => y.2) (fun y => absurd y.1 (by decide))
      refine o_astoreE C dL_page_13 (by rw [hn]; decide) rfl ?_
      refine x_iconst (v := 1) C dL_page_15 (by decide) ?_
      exact x_iret C E dL_page_16 (fun g9 e => ⟨_, v9, S9, rfl, mt, e0, fun q => absurd q (by decide), by rw [show g9 = g from e]; exact LX.of ho hV Zg⟩)
    by_cases e2 : En = UOE
    · subst e2
      refine x_catch (name := UOE) C [⟨0, 10, 13, 25⟩] ⟨0, 10, 17, 15⟩ [] (by rw [tb]; rfl) (fun q hq => by rw [List.mem_singleton.mp hq]; exact Or.inr ⟨by decide, IOE, wc_L_25, (E.cs.gx hX).2.2.2.1 _ exs_UOE _ exs_IOE (by decide)⟩) (by decide) (by decide) wc_L_15 ((E.cs.gx hX).2.2.1 _ exs_UOE) (fun q => X.opn (fun g hg => ?_))
      obtain ⟨v9, S9, mt, hc, Zg⟩ := hg
      have e0 : S9.i 0 = 2 := hc.elim (fun y => absurd y.1 (by decide)) (fun y => y.2)
      refine o_astoreE C dL_page_17 (by rw [hn]; decide) rfl ?_
      refine x_iconst (v := 2) C dL_page_19 (by decide) ?_
      exact x_iret C E dL_page_20 (fun g9 e => ⟨_, v9, S9, rfl, mt, e0, fun q => absurd q (by decide), by rw [show g9 = g from e]; exact LX.of ho hV Zg⟩)
    exact Xc.no (fun g hg => by obtain ⟨v9, S9, mt, hc, -⟩ := hg; exact hc.elim (fun y => e y.1) (fun y => e2 y.1))
  · obtain ⟨v9, S9, rfl, mt, e0, Zg⟩ := hg
    refine x_i2l C dL_page_8 ?_
    refine e_lst C Y dL_page_9 (by rw [Zg.at hV]; exact ho) (vp_in_nI (n := 0) (N := 1) (by decide) (by decide)) ?_
    refine x_goto (tgt := 21) C dL_page_10 (by decide) ?_
    refine x_iconst (v := 0) C dL_page_21 (by decide) ?_
    exact x_iret C E dL_page_22 (fun g9 e => ⟨_, v9, S9, rfl, mt, e0, fun _ => ⟨vp_updL f0 (Int32.toNatClampNeg 0) v9.toInt64, by rw [show g9 = _ from e]; exact hs_self .., rfl⟩, by rw [show g9 = _ from e]; exact LX.put hV Zg _⟩)
theorem l6_state (hX : Wx w c) (hS : MH S) (Z : ZI c a h V α f κ κd ω ωd S h) (ho : OU c o f0 h) (hV : V o) (k : Int32) (x : Int32) : TW w gw yL_state cL_state 5 (some .int) hL_state 9 (40 * 9) 1 6 [.ref (a 0), .int k, .int x, .ref o] (EQ h) (fun r g => ∃ (kv : Int32) (mv : Int32) (S' : MS), r = some (.int kv) ∧ (∀ M, Wm w M → TF w M yX7_state cX7_state 3 (some .int) 1 [.int k, .int x] S (some (.int mv)) S') ∧ S'.i 0 = kv ∧ (kv = 0 → ∃ f1, OU c o f1 g ∧ f1 0 = mv.toInt64) ∧ LX c a V o S' h g) := by
  have hW := hX.1
  have Bx := Z.x
  refine TW.intro (by decide +kernel) (Nat.le_of_ble_eq_true rfl) (fun z C E tb hn => ?_)
  have Y := Cty.of hW E.cs
  refine x_aload_n C dL_state_0 rfl ?_
  refine x_iconst (v := 0) C dL_state_1 (by decide) ?_
  refine x_aload_n C dL_state_2 rfl ?_
  refine x_iload_n C dL_state_3 rfl ?_
  refine x_iload_n C dL_state_4 rfl ?_
  refine x_callVX (kc := 0) (ks := 0) (st := [.int 0, .ref o]) C E.cs hX.1.1 gw_good (zy_state hX hS Z k x) md_X6_state wi_X6_state ws_X6_state wm_L_39 dL_state_5 rfl (by decide) (by decide) (fun g e => by rw [e]; exact Bx) (by rw [Y.1]; rfl) rfl (by simp [Value.category]) (fun En => ?_) (fun r => X.opn (fun g hg => ?_))
  · by_cases e : En = IOE
    · subst e
      refine x_catch (name := IOE) C [] ⟨0, 10, 13, 25⟩ [] (by rw [tb]; rfl) (fun q hq => nomatch hq) (by decide) (by decide) wc_L_25 ((E.cs.gx hX).2.2.1 _ exs_IOE) (fun q => X.opn (fun g hg => ?_))
      obtain ⟨v9, S9, mt, ⟨-, e0⟩, Zg⟩ := hg
      refine o_astoreE C dL_state_13 (by rw [hn]; decide) rfl ?_
      refine x_iconst (v := 1) C dL_state_15 (by decide) ?_
      exact x_iret C E dL_state_16 (fun g9 e => ⟨_, v9, S9, rfl, mt, e0, fun q => absurd q (by decide), by rw [show g9 = g from e]; exact LX.of ho hV Zg⟩)
    · exact Xc.no (fun g hg => by obtain ⟨v9, S9, mt, ⟨e9, -⟩, -⟩ := hg; exact e e9)
  · obtain ⟨v9, S9, rfl, mt, e0, Zg⟩ := hg
    refine x_i2l C dL_state_8 ?_
    refine e_lst C Y dL_state_9 (by rw [Zg.at hV]; exact ho) (vp_in_nI (n := 0) (N := 1) (by decide) (by decide)) ?_
    refine x_goto (tgt := 17) C dL_state_10 (by decide) ?_
    refine x_iconst (v := 0) C dL_state_17 (by decide) ?_
    exact x_iret C E dL_state_18 (fun g9 e => ⟨_, v9, S9, rfl, mt, e0, fun _ => ⟨vp_updL f0 (Int32.toNatClampNeg 0) v9.toInt64, by rw [show g9 = _ from e]; exact hs_self .., rfl⟩, by rw [show g9 = _ from e]; exact LX.put hV Zg _⟩)
theorem l6_found (hX : Wx w c) (hS : MH S) (Z : ZI c a h V α f κ κd ω ωd S h) (ho : OU c o f0 h) (hV : V o) (k : Int32) (i : Int32) : TW w gw yL_found cL_found 5 (some .int) hL_found 9 (40 * 9) 1 6 [.ref (a 0), .int k, .int i, .ref o] (EQ h) (fun r g => ∃ (kv : Int32) (mv : Int32) (S' : MS), r = some (.int kv) ∧ (∀ M, Wm w M → TF w M yX7_found cX7_found 3 (some .int) 1 [.int k, .int i] S (some (.int mv)) S') ∧ S'.i 0 = kv ∧ (kv = 0 → ∃ f1, OU c o f1 g ∧ f1 0 = mv.toInt64) ∧ LX c a V o S' h g) := by
  have hW := hX.1
  have Bx := Z.x
  refine TW.intro (by decide +kernel) (Nat.le_of_ble_eq_true rfl) (fun z C E tb hn => ?_)
  have Y := Cty.of hW E.cs
  refine x_aload_n C dL_found_0 rfl ?_
  refine x_iconst (v := 0) C dL_found_1 (by decide) ?_
  refine x_aload_n C dL_found_2 rfl ?_
  refine x_iload_n C dL_found_3 rfl ?_
  refine x_iload_n C dL_found_4 rfl ?_
  refine x_callVX (kc := 0) (ks := 0) (st := [.int 0, .ref o]) C E.cs hX.1.1 gw_good (zy_found hX hS Z k i) md_X6_found wi_X6_found ws_X6_found wm_L_42 dL_found_5 rfl (by decide) (by decide) (fun g e => by rw [e]; exact Bx) (by rw [Y.1]; rfl) rfl (by simp [Value.category]) (fun En => ?_) (fun r => X.opn (fun g hg => ?_))
  · by_cases e : En = IOE
    · subst e
      refine x_catch (name := IOE) C [] ⟨0, 10, 13, 25⟩ [] (by rw [tb]; rfl) (fun q hq => nomatch hq) (by decide) (by decide) wc_L_25 ((E.cs.gx hX).2.2.1 _ exs_IOE) (fun q => X.opn (fun g hg => ?_))
      obtain ⟨v9, S9, mt, ⟨-, e0⟩, Zg⟩ := hg
      refine o_astoreE C dL_found_13 (by rw [hn]; decide) rfl ?_
      refine x_iconst (v := 1) C dL_found_15 (by decide) ?_
      exact x_iret C E dL_found_16 (fun g9 e => ⟨_, v9, S9, rfl, mt, e0, fun q => absurd q (by decide), by rw [show g9 = g from e]; exact LX.of ho hV Zg⟩)
    · exact Xc.no (fun g hg => by obtain ⟨v9, S9, mt, ⟨e9, -⟩, -⟩ := hg; exact e e9)
  · obtain ⟨v9, S9, rfl, mt, e0, Zg⟩ := hg
    refine x_i2l C dL_found_8 ?_
    refine e_lst C Y dL_found_9 (by rw [Zg.at hV]; exact ho) (vp_in_nI (n := 0) (N := 1) (by decide) (by decide)) ?_
    refine x_goto (tgt := 17) C dL_found_10 (by decide) ?_
    refine x_iconst (v := 0) C dL_found_17 (by decide) ?_
    exact x_iret C E dL_found_18 (fun g9 e => ⟨_, v9, S9, rfl, mt, e0, fun _ => ⟨vp_updL f0 (Int32.toNatClampNeg 0) v9.toInt64, by rw [show g9 = _ from e]; exact hs_self .., rfl⟩, by rw [show g9 = _ from e]; exact LX.put hV Zg _⟩)
theorem l6_readOut (hX : Wx w c) (hS : MH S) (Z : ZI c a h V α f κ κd ω ωd S h) (ho : OU c o f0 h) (hV : V o) (k : Int32) : TW w gw yL_readOut cL_readOut 4 (some .int) hL_readOut 9 (40 * 9) 1050 8040 [.ref (a 0), .int k, .ref o] (EQ h) (fun r g => ∃ (kv : Int32) (mv : Int32) (S' : MS), r = some (.int kv) ∧ (∀ M, Wm w M → TF w M yX7_readOut cX7_readOut 4 (some .int) 5 [.int k] S (some (.int mv)) S') ∧ S'.i 0 = kv ∧ True ∧ LX c a V o S' h g) := by
  have hW := hX.1
  have Bx := Z.x
  refine TW.intro (by decide +kernel) (Nat.le_of_ble_eq_true rfl) (fun z C E tb hn => ?_)
  have Y := Cty.of hW E.cs
  refine x_aload_n C dL_readOut_0 rfl ?_
  refine x_iconst (v := 0) C dL_readOut_1 (by decide) ?_
  refine x_aload_n C dL_readOut_2 rfl ?_
  refine x_iload_n C dL_readOut_3 rfl ?_
  refine x_callVX (kc := 0) (ks := 0) (st := [.int 0, .ref o]) C E.cs hX.1.1 gw_good (zy_readOut hX hS Z k) md_X6_readOut wi_X6_readOut ws_X6_readOut wm_L_45 dL_readOut_4 rfl (by decide) (by decide) (fun g e => by rw [e]; exact Bx) (by rw [Y.1]; rfl) rfl (by simp [Value.category]) (fun En => ?_) (fun r => X.opn (fun g hg => ?_))
  · by_cases e : En = IOE
    · subst e
      refine x_catch (name := IOE) C [] ⟨0, 9, 12, 25⟩ [] (by rw [tb]; rfl) (fun q hq => nomatch hq) (by decide) (by decide) wc_L_25 ((E.cs.gx hX).2.2.1 _ exs_IOE) (fun q => X.opn (fun g hg => ?_))
      obtain ⟨v9, S9, mt, ⟨-, e0⟩, Zg⟩ := hg
      refine o_astore_nE C dL_readOut_12 (by rw [hn]; decide) rfl ?_
      refine x_iconst (v := 1) C dL_readOut_13 (by decide) ?_
      exact x_iret C E dL_readOut_14 (fun g9 e => ⟨_, v9, S9, rfl, mt, e0, trivial, by rw [show g9 = g from e]; exact LX.of ho hV Zg⟩)
    · exact Xc.no (fun g hg => by obtain ⟨v9, S9, mt, ⟨e9, -⟩, -⟩ := hg; exact e e9)
  · obtain ⟨v9, mv9, S9, rfl, mt, e0, Zg⟩ := hg
    refine x_i2l C dL_readOut_7 ?_
    refine e_lst C Y dL_readOut_8 (by rw [Zg.at hV]; exact ho) (vp_in_nI (n := 0) (N := 1) (by decide) (by decide)) ?_
    refine x_goto (tgt := 15) C dL_readOut_9 (by decide) ?_
    refine x_iconst (v := 0) C dL_readOut_15 (by decide) ?_
    exact x_iret C E dL_readOut_16 (fun g9 e => ⟨_, mv9, S9, rfl, mt, e0, trivial, by rw [show g9 = _ from e]; exact LX.put hV Zg _⟩)
theorem l6_record (hX : Wx w c) (hS : MH S) (Z : ZI c a h V α f κ κd ω ωd S h) (ho : OU c o f0 h) (hV : V o) (k : Int32) (i : Int32) : TW w gw yL_record cL_record 5 (some .int) hL_record 9 (40 * 9) 1 6 [.ref (a 0), .int k, .int i, .ref o] (EQ h) (fun r g => ∃ (kv : Int32) (mv : Int64) (S' : MS), r = some (.int kv) ∧ (∀ M, Wm w M → TF w M yX7_record cX7_record 4 (some .long) 1 [.int k, .int i] S (some (.long mv)) S') ∧ S'.i 0 = kv ∧ (kv = 0 → ∃ f1, OU c o f1 g ∧ f1 0 = mv) ∧ LX c a V o S' h g) := by
  have hW := hX.1
  have Bx := Z.x
  refine TW.intro (by decide +kernel) (Nat.le_of_ble_eq_true rfl) (fun z C E tb hn => ?_)
  have Y := Cty.of hW E.cs
  refine x_aload_n C dL_record_0 rfl ?_
  refine x_iconst (v := 0) C dL_record_1 (by decide) ?_
  refine x_aload_n C dL_record_2 rfl ?_
  refine x_iload_n C dL_record_3 rfl ?_
  refine x_iload_n C dL_record_4 rfl ?_
  refine x_callVX (kc := 0) (ks := 0) (st := [.int 0, .ref o]) C E.cs hX.1.1 gw_good (zy_record hX hS Z k i) md_X6_record wi_X6_record ws_X6_record wm_L_48 dL_record_5 rfl (by decide) (by decide) (fun g e => by rw [e]; exact Bx) (by rw [Y.1]; rfl) rfl (by simp [Value.category]) (fun En => ?_) (fun r => X.opn (fun g hg => ?_))
  · by_cases e : En = IOE
    · subst e
      refine x_catch (name := IOE) C [] ⟨0, 9, 12, 25⟩ [] (by rw [tb]; rfl) (fun q hq => nomatch hq) (by decide) (by decide) wc_L_25 ((E.cs.gx hX).2.2.1 _ exs_IOE) (fun q => X.opn (fun g hg => ?_))
      obtain ⟨v9, S9, mt, ⟨-, e0⟩, Zg⟩ := hg
      refine o_astoreE C dL_record_12 (by rw [hn]; decide) rfl ?_
      refine x_iconst (v := 1) C dL_record_14 (by decide) ?_
      exact x_iret C E dL_record_15 (fun g9 e => ⟨_, v9, S9, rfl, mt, e0, fun q => absurd q (by decide), by rw [show g9 = g from e]; exact LX.of ho hV Zg⟩)
    · exact Xc.no (fun g hg => by obtain ⟨v9, S9, mt, ⟨e9, -⟩, -⟩ := hg; exact e e9)
  · obtain ⟨v9, S9, rfl, mt, e0, Zg⟩ := hg
    refine e_lst C Y dL_record_8 (by rw [Zg.at hV]; exact ho) (vp_in_nI (n := 0) (N := 1) (by decide) (by decide)) ?_
    refine x_goto (tgt := 16) C dL_record_9 (by decide) ?_
    refine x_iconst (v := 0) C dL_record_16 (by decide) ?_
    exact x_iret C E dL_record_17 (fun g9 e => ⟨_, v9, S9, rfl, mt, e0, fun _ => ⟨vp_updL f0 (Int32.toNatClampNeg 0) v9, by rw [show g9 = _ from e]; exact hs_self .., rfl⟩, by rw [show g9 = _ from e]; exact LX.put hV Zg _⟩)
theorem l6_text (hX : Wx w c) (hS : MH S) (Z : ZI c a h V α f κ κd ω ωd S h) (ho : OU c o f0 h) (hV : V o) (k : Int32) (i : Int32) : TW w gw yL_text cL_text 5 (some .int) hL_text 9 (40 * 9) 1 6 [.ref (a 0), .int k, .int i, .ref o] (EQ h) (fun r g => ∃ (kv : Int32) (mv : Int32) (S' : MS), r = some (.int kv) ∧ (∀ M, Wm w M → TF w M yX7_text cX7_text 4 (some .int) 1 [.int k, .int i] S (some (.int mv)) S') ∧ S'.i 0 = kv ∧ (kv = 0 → ∃ f1, OU c o f1 g ∧ f1 0 = mv.toInt64) ∧ LX c a V o S' h g) := by
  have hW := hX.1
  have Bx := Z.x
  refine TW.intro (by decide +kernel) (Nat.le_of_ble_eq_true rfl) (fun z C E tb hn => ?_)
  have Y := Cty.of hW E.cs
  refine x_aload_n C dL_text_0 rfl ?_
  refine x_iconst (v := 0) C dL_text_1 (by decide) ?_
  refine x_aload_n C dL_text_2 rfl ?_
  refine x_iload_n C dL_text_3 rfl ?_
  refine x_iload_n C dL_text_4 rfl ?_
  refine x_callVX (kc := 0) (ks := 0) (st := [.int 0, .ref o]) C E.cs hX.1.1 gw_good (zy_text hX hS Z k i) md_X6_text wi_X6_text ws_X6_text wm_L_52 dL_text_5 rfl (by decide) (by decide) (fun g e => by rw [e]; exact Bx) (by rw [Y.1]; rfl) rfl (by simp [Value.category]) (fun En => ?_) (fun r => X.opn (fun g hg => ?_))
  · by_cases e : En = IOE
    · subst e
      refine x_catch (name := IOE) C [] ⟨0, 10, 13, 25⟩ [] (by rw [tb]; rfl) (fun q hq => nomatch hq) (by decide) (by decide) wc_L_25 ((E.cs.gx hX).2.2.1 _ exs_IOE) (fun q => X.opn (fun g hg => ?_))
      obtain ⟨v9, S9, mt, ⟨-, e0⟩, Zg⟩ := hg
      refine o_astoreE C dL_text_13 (by rw [hn]; decide) rfl ?_
      refine x_iconst (v := 1) C dL_text_15 (by decide) ?_
      exact x_iret C E dL_text_16 (fun g9 e => ⟨_, v9, S9, rfl, mt, e0, fun q => absurd q (by decide), by rw [show g9 = g from e]; exact LX.of ho hV Zg⟩)
    · exact Xc.no (fun g hg => by obtain ⟨v9, S9, mt, ⟨e9, -⟩, -⟩ := hg; exact e e9)
  · obtain ⟨v9, S9, rfl, mt, e0, Zg⟩ := hg
    refine x_i2l C dL_text_8 ?_
    refine e_lst C Y dL_text_9 (by rw [Zg.at hV]; exact ho) (vp_in_nI (n := 0) (N := 1) (by decide) (by decide)) ?_
    refine x_goto (tgt := 17) C dL_text_10 (by decide) ?_
    refine x_iconst (v := 0) C dL_text_17 (by decide) ?_
    exact x_iret C E dL_text_18 (fun g9 e => ⟨_, v9, S9, rfl, mt, e0, fun _ => ⟨vp_updL f0 (Int32.toNatClampNeg 0) v9.toInt64, by rw [show g9 = _ from e]; exact hs_self .., rfl⟩, by rw [show g9 = _ from e]; exact LX.put hV Zg _⟩)
theorem l6_count (hX : Wx w c) (hS : MH S) (Z : ZI c a h V α f κ κd ω ωd S h) (ho : OU c o f0 h) (hV : V o) (x : Int32) : TW w gw yL_count cL_count 4 (some .int) hL_count 9 (40 * 9) 1 6 [.ref (a 0), .int x, .ref o] (EQ h) (fun r g => ∃ (kv : Int32) (mv : Int32) (S' : MS), r = some (.int kv) ∧ (∀ M, Wm w M → TF w M yX7_count cX7_count 4 (some .int) 1 [.int x] S (some (.int mv)) S') ∧ S'.i 0 = kv ∧ (kv = 0 → ∃ f1, OU c o f1 g ∧ f1 0 = mv.toInt64) ∧ LX c a V o S' h g) := by
  have hW := hX.1
  have Bx := Z.x
  refine TW.intro (by decide +kernel) (Nat.le_of_ble_eq_true rfl) (fun z C E tb hn => ?_)
  have Y := Cty.of hW E.cs
  refine x_aload_n C dL_count_0 rfl ?_
  refine x_iconst (v := 0) C dL_count_1 (by decide) ?_
  refine x_aload_n C dL_count_2 rfl ?_
  refine x_iload_n C dL_count_3 rfl ?_
  refine x_callVX (kc := 0) (ks := 0) (st := [.int 0, .ref o]) C E.cs hX.1.1 gw_good (zy_count hX hS Z x) md_X6_count wi_X6_count ws_X6_count wm_L_55 dL_count_4 rfl (by decide) (by decide) (fun g e => by rw [e]; exact Bx) (by rw [Y.1]; rfl) rfl (by simp [Value.category]) (fun En => ?_) (fun r => X.opn (fun g hg => ?_))
  · by_cases e : En = IOE
    · subst e
      refine x_catch (name := IOE) C [] ⟨0, 9, 12, 25⟩ [] (by rw [tb]; rfl) (fun q hq => nomatch hq) (by decide) (by decide) wc_L_25 ((E.cs.gx hX).2.2.1 _ exs_IOE) (fun q => X.opn (fun g hg => ?_))
      obtain ⟨v9, S9, mt, ⟨-, e0⟩, Zg⟩ := hg
      refine o_astore_nE C dL_count_12 (by rw [hn]; decide) rfl ?_
      refine x_iconst (v := 1) C dL_count_13 (by decide) ?_
      exact x_iret C E dL_count_14 (fun g9 e => ⟨_, v9, S9, rfl, mt, e0, fun q => absurd q (by decide), by rw [show g9 = g from e]; exact LX.of ho hV Zg⟩)
    · exact Xc.no (fun g hg => by obtain ⟨v9, S9, mt, ⟨e9, -⟩, -⟩ := hg; exact e e9)
  · obtain ⟨v9, S9, rfl, mt, e0, Zg⟩ := hg
    refine x_i2l C dL_count_7 ?_
    refine e_lst C Y dL_count_8 (by rw [Zg.at hV]; exact ho) (vp_in_nI (n := 0) (N := 1) (by decide) (by decide)) ?_
    refine x_goto (tgt := 15) C dL_count_9 (by decide) ?_
    refine x_iconst (v := 0) C dL_count_15 (by decide) ?_
    exact x_iret C E dL_count_16 (fun g9 e => ⟨_, v9, S9, rfl, mt, e0, fun _ => ⟨vp_updL f0 (Int32.toNatClampNeg 0) v9.toInt64, by rw [show g9 = _ from e]; exact hs_self .., rfl⟩, by rw [show g9 = _ from e]; exact LX.put hV Zg _⟩)
end Law
