/-! The law's own methods, over a new MeterBus. -/
section Rows
variable {z : Fx} {own : String} {cc : ByteArray} {kc ks pc : Nat} {L : List (Option Value)} {st : List Value} {w : Wd} {c : Nat → ClassId} {h : PH} {fr lo : Nat}
theorem Cty.of (hW : Wc w c) (E : Cs z w fr lo) : Cty z c := by
  obtain ⟨q1, q2, q3, q4, q5, -⟩ := E
  obtain ⟨r1, r3, r4, r5, r6⟩ := hW
  exact ⟨by rw [q3]; exact r3, by rw [q4]; exact r4, by rw [q4]; exact r5, by rw [q4]; exact r6⟩
theorem e_lst (C : Cx z own cc gw) (Y : Cty z c) (d : decode cc pc = .ok (.lastore, 1)) {a n : Nat} {f : Nat → Int64} {i : Int32} {x : Int64} (g : h a = some (.inl (c 1, n, .inr (.inl f)))) (gi : vp_in i n)
    (kk : X z kc ks (EQ (hs h a (.inl (c 1, n, .inr (.inl (vp_updL f i.toNatClampNeg x)))))) (pc + 1) L st) : X z kc ks (EQ h) pc L (.long x :: .int i :: .ref a :: st) := by
  obtain ⟨t, ht⟩ := Y.2.2.1
  exact x_last C ht d (fun q e => by rw [e]; exact g) gi (fun q e => by rw [e]) kk
end Rows
section Law
variable {w : Wd} {c : Nat → ClassId} {a : Nat → Nat} {h : PH} {o : Nat} {f0 : Nat → Int64}
/-- the law's own long[1] at o -/
abbrev OU (c : Nat → ClassId) (o : Nat) (f0 : Nat → Int64) (h : PH) : Prop := h o = some (.inl (c 1, 1, .inr (.inl f0)))
theorem l_typed (hX : Wx w c) (F : FR c a h) (ho : OU c o f0 h) (hoa : ∀ i, i < 11 → o ≠ a i) (i : Int32) : TW w gw yL_typed cL_typed 4 (some .int) hL_typed 9 (40 * 9) 1 6 [.ref (a 0), .int i, .ref o] (EQ h) (fun r g => r = some (.int 1) ∧ g = h) := by
  have hW := hX.1
  refine TW.intro (by decide +kernel) (Nat.le_of_ble_eq_true rfl) (fun z C E tb hn => ?_)
  have Y := Cty.of hW E.cs
  refine x_aload_n C dL_typed_0 rfl ?_
  refine x_iconst (v := 0) C dL_typed_1 (by decide) ?_
  refine x_aload_n C dL_typed_2 rfl ?_
  refine x_iload_n C dL_typed_3 rfl ?_
  refine x_callVX (kc := 0) (ks := 0) (st := [.int 0, .ref o]) C E.cs hX.1.1 gw_good (m_typed hX F i) md_X6_typed wi_X6_typed ws_X6_typed wm_L_21 dL_typed_4 rfl (by decide) (by decide) (fun g e => by rw [e]; exact F.x) (by rw [Y.1]; rfl) rfl (by simp [Value.category]) (fun En => ?_) (fun r => X.opn (fun g hg => ?_))
  · by_cases e : En = IOE
    · subst e
      refine x_catch (name := IOE) C [] ⟨0, 9, 12, 25⟩ [] (by rw [tb]; rfl) (fun q hq => nomatch hq) (by decide) (by decide) wc_L_25 ((E.cs.gx hX).2.2.1 _ exs_IOE) (fun q => X.opn (fun g hg => ?_))
      obtain ⟨-, rfl⟩ := hg
      refine o_astore_nE C dL_typed_12 (by rw [hn]; decide) rfl ?_
      refine x_iconst (v := 1) C dL_typed_13 (by decide) ?_
      exact x_iret C E dL_typed_14 (fun g e => ⟨rfl, e⟩)
    · exact Xc.no (fun g hg => e hg.1)
  · exact hg.elim
theorem l_page (hX : Wx w c) (F : FR c a h) (ho : OU c o f0 h) (hoa : ∀ i, i < 11 → o ≠ a i) (k : Int32) (i : Int32) : TW w gw yL_page cL_page 5 (some .int) hL_page 9 (40 * 9) 1 6 [.ref (a 0), .int k, .int i, .ref o] (EQ h) (fun r g => r = some (.int 1) ∧ g = h) := by
  have hW := hX.1
  refine TW.intro (by decide +kernel) (Nat.le_of_ble_eq_true rfl) (fun z C E tb hn => ?_)
  have Y := Cty.of hW E.cs
  refine x_aload_n C dL_page_0 rfl ?_
  refine x_iconst (v := 0) C dL_page_1 (by decide) ?_
  refine x_aload_n C dL_page_2 rfl ?_
  refine x_iload_n C dL_page_3 rfl ?_
  refine x_iload_n C dL_page_4 rfl ?_
  refine x_callVX (kc := 0) (ks := 0) (st := [.int 0, .ref o]) C E.cs hX.1.1 gw_good (m_page hX F k i) md_X6_page wi_X6_page ws_X6_page wm_L_35 dL_page_5 rfl (by decide) (by decide) (fun g e => by rw [e]; exact F.x) (by rw [Y.1]; rfl) rfl (by simp [Value.category]) (fun En => ?_) (fun r => X.opn (fun g hg => ?_))
  · by_cases e : En = IOE
    · subst e
      refine x_catch (name := IOE) C [] ⟨0, 10, 13, 25⟩ [⟨0, 10, 17, 15⟩] (by rw [tb]; rfl) (fun q hq => nomatch hq) (by decide) (by decide) wc_L_25 ((E.cs.gx hX).2.2.1 _ exs_IOE) (fun q => X.opn (fun g hg => ?_))
      obtain ⟨-, rfl⟩ := hg
      refine o_astoreE C dL_page_13 (by rw [hn]; decide) rfl ?_
      refine x_iconst (v := 1) C dL_page_15 (by decide) ?_
      exact x_iret C E dL_page_16 (fun g e => ⟨rfl, e⟩)
    · exact Xc.no (fun g hg => e hg.1)
  · exact hg.elim
theorem l_found (hX : Wx w c) (F : FR c a h) (ho : OU c o f0 h) (hoa : ∀ i, i < 11 → o ≠ a i) (k : Int32) (i : Int32) : TW w gw yL_found cL_found 5 (some .int) hL_found 9 (40 * 9) 1 6 [.ref (a 0), .int k, .int i, .ref o] (EQ h) (fun r g => r = some (.int 1) ∧ g = h) := by
  have hW := hX.1
  refine TW.intro (by decide +kernel) (Nat.le_of_ble_eq_true rfl) (fun z C E tb hn => ?_)
  have Y := Cty.of hW E.cs
  refine x_aload_n C dL_found_0 rfl ?_
  refine x_iconst (v := 0) C dL_found_1 (by decide) ?_
  refine x_aload_n C dL_found_2 rfl ?_
  refine x_iload_n C dL_found_3 rfl ?_
  refine x_iload_n C dL_found_4 rfl ?_
  refine x_callVX (kc := 0) (ks := 0) (st := [.int 0, .ref o]) C E.cs hX.1.1 gw_good (m_found hX F k i) md_X6_found wi_X6_found ws_X6_found wm_L_42 dL_found_5 rfl (by decide) (by decide) (fun g e => by rw [e]; exact F.x) (by rw [Y.1]; rfl) rfl (by simp [Value.category]) (fun En => ?_) (fun r => X.opn (fun g hg => ?_))
  · by_cases e : En = IOE
    · subst e
      refine x_catch (name := IOE) C [] ⟨0, 10, 13, 25⟩ [] (by rw [tb]; rfl) (fun q hq => nomatch hq) (by decide) (by decide) wc_L_25 ((E.cs.gx hX).2.2.1 _ exs_IOE) (fun q => X.opn (fun g hg => ?_))
      obtain ⟨-, rfl⟩ := hg
      refine o_astoreE C dL_found_13 (by rw [hn]; decide) rfl ?_
      refine x_iconst (v := 1) C dL_found_15 (by decide) ?_
      exact x_iret C E dL_found_16 (fun g e => ⟨rfl, e⟩)
    · exact Xc.no (fun g hg => e hg.1)
  · exact hg.elim
theorem l_readOut (hX : Wx w c) (F : FR c a h) (ho : OU c o f0 h) (hoa : ∀ i, i < 11 → o ≠ a i) (k : Int32) : TW w gw yL_readOut cL_readOut 4 (some .int) hL_readOut 9 (40 * 9) 1 6 [.ref (a 0), .int k, .ref o] (EQ h) (fun r g => r = some (.int 1) ∧ g = h) := by
  have hW := hX.1
  refine TW.intro (by decide +kernel) (Nat.le_of_ble_eq_true rfl) (fun z C E tb hn => ?_)
  have Y := Cty.of hW E.cs
  refine x_aload_n C dL_readOut_0 rfl ?_
  refine x_iconst (v := 0) C dL_readOut_1 (by decide) ?_
  refine x_aload_n C dL_readOut_2 rfl ?_
  refine x_iload_n C dL_readOut_3 rfl ?_
  refine x_callVX (kc := 0) (ks := 0) (st := [.int 0, .ref o]) C E.cs hX.1.1 gw_good (m_readOut hX F k) md_X6_readOut wi_X6_readOut ws_X6_readOut wm_L_45 dL_readOut_4 rfl (by decide) (by decide) (fun g e => by rw [e]; exact F.x) (by rw [Y.1]; rfl) rfl (by simp [Value.category]) (fun En => ?_) (fun r => X.opn (fun g hg => ?_))
  · by_cases e : En = IOE
    · subst e
      refine x_catch (name := IOE) C [] ⟨0, 9, 12, 25⟩ [] (by rw [tb]; rfl) (fun q hq => nomatch hq) (by decide) (by decide) wc_L_25 ((E.cs.gx hX).2.2.1 _ exs_IOE) (fun q => X.opn (fun g hg => ?_))
      obtain ⟨-, rfl⟩ := hg
      refine o_astore_nE C dL_readOut_12 (by rw [hn]; decide) rfl ?_
      refine x_iconst (v := 1) C dL_readOut_13 (by decide) ?_
      exact x_iret C E dL_readOut_14 (fun g e => ⟨rfl, e⟩)
    · exact Xc.no (fun g hg => e hg.1)
  · exact hg.elim
theorem l_record (hX : Wx w c) (F : FR c a h) (ho : OU c o f0 h) (hoa : ∀ i, i < 11 → o ≠ a i) (k : Int32) (i : Int32) : TW w gw yL_record cL_record 5 (some .int) hL_record 9 (40 * 9) 1 6 [.ref (a 0), .int k, .int i, .ref o] (EQ h) (fun r g => r = some (.int 1) ∧ g = h) := by
  have hW := hX.1
  refine TW.intro (by decide +kernel) (Nat.le_of_ble_eq_true rfl) (fun z C E tb hn => ?_)
  have Y := Cty.of hW E.cs
  refine x_aload_n C dL_record_0 rfl ?_
  refine x_iconst (v := 0) C dL_record_1 (by decide) ?_
  refine x_aload_n C dL_record_2 rfl ?_
  refine x_iload_n C dL_record_3 rfl ?_
  refine x_iload_n C dL_record_4 rfl ?_
  refine x_callVX (kc := 0) (ks := 0) (st := [.int 0, .ref o]) C E.cs hX.1.1 gw_good (m_record hX F k i) md_X6_record wi_X6_record ws_X6_record wm_L_48 dL_record_5 rfl (by decide) (by decide) (fun g e => by rw [e]; exact F.x) (by rw [Y.1]; rfl) rfl (by simp [Value.category]) (fun En => ?_) (fun r => X.opn (fun g hg => ?_))
  · by_cases e : En = IOE
    · subst e
      refine x_catch (name := IOE) C [] ⟨0, 9, 12, 25⟩ [] (by rw [tb]; rfl) (fun q hq => nomatch hq) (by decide) (by decide) wc_L_25 ((E.cs.gx hX).2.2.1 _ exs_IOE) (fun q => X.opn (fun g hg => ?_))
      obtain ⟨-, rfl⟩ := hg
      refine o_astoreE C dL_record_12 (by rw [hn]; decide) rfl ?_
      refine x_iconst (v := 1) C dL_record_14 (by decide) ?_
      exact x_iret C E dL_record_15 (fun g e => ⟨rfl, e⟩)
    · exact Xc.no (fun g hg => e hg.1)
  · exact hg.elim
theorem l_text (hX : Wx w c) (F : FR c a h) (ho : OU c o f0 h) (hoa : ∀ i, i < 11 → o ≠ a i) (k : Int32) (i : Int32) : TW w gw yL_text cL_text 5 (some .int) hL_text 9 (40 * 9) 1 6 [.ref (a 0), .int k, .int i, .ref o] (EQ h) (fun r g => r = some (.int 1) ∧ g = h) := by
  have hW := hX.1
  refine TW.intro (by decide +kernel) (Nat.le_of_ble_eq_true rfl) (fun z C E tb hn => ?_)
  have Y := Cty.of hW E.cs
  refine x_aload_n C dL_text_0 rfl ?_
  refine x_iconst (v := 0) C dL_text_1 (by decide) ?_
  refine x_aload_n C dL_text_2 rfl ?_
  refine x_iload_n C dL_text_3 rfl ?_
  refine x_iload_n C dL_text_4 rfl ?_
  refine x_callVX (kc := 0) (ks := 0) (st := [.int 0, .ref o]) C E.cs hX.1.1 gw_good (m_text hX F k i) md_X6_text wi_X6_text ws_X6_text wm_L_52 dL_text_5 rfl (by decide) (by decide) (fun g e => by rw [e]; exact F.x) (by rw [Y.1]; rfl) rfl (by simp [Value.category]) (fun En => ?_) (fun r => X.opn (fun g hg => ?_))
  · by_cases e : En = IOE
    · subst e
      refine x_catch (name := IOE) C [] ⟨0, 10, 13, 25⟩ [] (by rw [tb]; rfl) (fun q hq => nomatch hq) (by decide) (by decide) wc_L_25 ((E.cs.gx hX).2.2.1 _ exs_IOE) (fun q => X.opn (fun g hg => ?_))
      obtain ⟨-, rfl⟩ := hg
      refine o_astoreE C dL_text_13 (by rw [hn]; decide) rfl ?_
      refine x_iconst (v := 1) C dL_text_15 (by decide) ?_
      exact x_iret C E dL_text_16 (fun g e => ⟨rfl, e⟩)
    · exact Xc.no (fun g hg => e hg.1)
  · exact hg.elim
theorem l_state (hX : Wx w c) (F : FR c a h) (ho : OU c o f0 h) (hoa : ∀ i, i < 11 → o ≠ a i) (k : Int32) (x : Int32) : TW w gw yL_state cL_state 5 (some .int) hL_state 9 (40 * 9) 1 6 [.ref (a 0), .int k, .int x, .ref o] (EQ h) (fun r g => ((((0 : Int32) ≤ k ∧ k < 12) ∧ ((0 : Int32) ≤ x ∧ x ≤ 6)) ∧ r = some (.int 0) ∧ g = hs h o (.inl (c 1, 1, .inr (.inl (vp_updL f0 0 0))))) ∨ (¬ (((0 : Int32) ≤ k ∧ k < 12) ∧ ((0 : Int32) ≤ x ∧ x ≤ 6)) ∧ r = some (.int 1) ∧ g = h)) := by
  have hW := hX.1
  refine TW.intro (by decide +kernel) (Nat.le_of_ble_eq_true rfl) (fun z C E tb hn => ?_)
  have Y := Cty.of hW E.cs
  refine x_aload_n C dL_state_0 rfl ?_
  refine x_iconst (v := 0) C dL_state_1 (by decide) ?_
  refine x_aload_n C dL_state_2 rfl ?_
  refine x_iload_n C dL_state_3 rfl ?_
  refine x_iload_n C dL_state_4 rfl ?_
  refine x_callVX (kc := 0) (ks := 0) (st := [.int 0, .ref o]) C E.cs hX.1.1 gw_good (m_state hX F k x) md_X6_state wi_X6_state ws_X6_state wm_L_39 dL_state_5 rfl (by decide) (by decide) (fun g e => by rw [e]; exact F.x) (by rw [Y.1]; rfl) rfl (by simp [Value.category]) (fun En => ?_) (fun r => X.opn (fun g hg => ?_))
  · by_cases e : En = IOE
    · subst e
      refine x_catch (name := IOE) C [] ⟨0, 10, 13, 25⟩ [] (by rw [tb]; rfl) (fun q hq => nomatch hq) (by decide) (by decide) wc_L_25 ((E.cs.gx hX).2.2.1 _ exs_IOE) (fun q => X.opn (fun g hg => ?_))
      obtain ⟨nc, -, rfl⟩ := hg
      refine o_astoreE C dL_state_13 (by rw [hn]; decide) rfl ?_
      refine x_iconst (v := 1) C dL_state_15 (by decide) ?_
      exact x_iret C E dL_state_16 (fun g e => Or.inr ⟨nc, rfl, e⟩)
    · exact Xc.no (fun g hg => e hg.2.1)
  · obtain ⟨hc, rfl, rfl⟩ := hg
    refine x_i2l C dL_state_8 ?_
    refine e_lst C Y dL_state_9 ho (vp_in_nI (n := 0) (N := 1) (by decide) (by decide)) ?_
    refine x_goto (tgt := 17) C dL_state_10 (by decide) ?_
    refine x_iconst (v := 0) C dL_state_17 (by decide) ?_
    exact x_iret C E dL_state_18 (fun g e => Or.inl ⟨hc, rfl, e⟩)
theorem l_count (hX : Wx w c) (F : FR c a h) (ho : OU c o f0 h) (hoa : ∀ i, i < 11 → o ≠ a i) (x : Int32) : TW w gw yL_count cL_count 4 (some .int) hL_count 9 (40 * 9) 1 6 [.ref (a 0), .int x, .ref o] (EQ h) (fun r g => (((0 : Int32) ≤ x ∧ x ≤ 5) ∧ r = some (.int 0) ∧ g = hs h o (.inl (c 1, 1, .inr (.inl (vp_updL f0 0 0))))) ∨ (¬ ((0 : Int32) ≤ x ∧ x ≤ 5) ∧ r = some (.int 1) ∧ g = h)) := by
  have hW := hX.1
  refine TW.intro (by decide +kernel) (Nat.le_of_ble_eq_true rfl) (fun z C E tb hn => ?_)
  have Y := Cty.of hW E.cs
  refine x_aload_n C dL_count_0 rfl ?_
  refine x_iconst (v := 0) C dL_count_1 (by decide) ?_
  refine x_aload_n C dL_count_2 rfl ?_
  refine x_iload_n C dL_count_3 rfl ?_
  refine x_callVX (kc := 0) (ks := 0) (st := [.int 0, .ref o]) C E.cs hX.1.1 gw_good (m_count hX F x) md_X6_count wi_X6_count ws_X6_count wm_L_55 dL_count_4 rfl (by decide) (by decide) (fun g e => by rw [e]; exact F.x) (by rw [Y.1]; rfl) rfl (by simp [Value.category]) (fun En => ?_) (fun r => X.opn (fun g hg => ?_))
  · by_cases e : En = IOE
    · subst e
      refine x_catch (name := IOE) C [] ⟨0, 9, 12, 25⟩ [] (by rw [tb]; rfl) (fun q hq => nomatch hq) (by decide) (by decide) wc_L_25 ((E.cs.gx hX).2.2.1 _ exs_IOE) (fun q => X.opn (fun g hg => ?_))
      obtain ⟨nc, -, rfl⟩ := hg
      refine o_astore_nE C dL_count_12 (by rw [hn]; decide) rfl ?_
      refine x_iconst (v := 1) C dL_count_13 (by decide) ?_
      exact x_iret C E dL_count_14 (fun g e => Or.inr ⟨nc, rfl, e⟩)
    · exact Xc.no (fun g hg => e hg.2.1)
  · obtain ⟨hc, rfl, rfl⟩ := hg
    refine x_i2l C dL_count_7 ?_
    refine e_lst C Y dL_count_8 ho (vp_in_nI (n := 0) (N := 1) (by decide) (by decide)) ?_
    refine x_goto (tgt := 15) C dL_count_9 (by decide) ?_
    refine x_iconst (v := 0) C dL_count_15 (by decide) ?_
    exact x_iret C E dL_count_16 (fun g e => Or.inl ⟨hc, rfl, e⟩)
theorem l_remove (hX : Wx w c) (F : FR c a h) (ho : OU c o f0 h) (hoa : ∀ i, i < 11 → o ≠ a i) (k : Int32) : TW w gw yL_remove cL_remove 4 (some .int) hL_remove 9 (40 * 9) 1 6 [.ref (a 0), .int k, .ref o] (EQ h) (fun r g => (((0 : Int32) ≤ k ∧ k < 12) ∧ r = some (.int 0) ∧ g = hs h o (.inl (c 1, 1, .inr (.inl (vp_updL f0 0 0))))) ∨ (¬ ((0 : Int32) ≤ k ∧ k < 12) ∧ r = some (.int 1) ∧ g = h)) := by
  have hW := hX.1
  refine TW.intro (by decide +kernel) (Nat.le_of_ble_eq_true rfl) (fun z C E tb hn => ?_)
  have Y := Cty.of hW E.cs
  refine x_aload_n C dL_remove_0 rfl ?_
  refine x_iconst (v := 0) C dL_remove_1 (by decide) ?_
  refine x_aload_n C dL_remove_2 rfl ?_
  refine x_iload_n C dL_remove_3 rfl ?_
  refine x_callVX (kc := 0) (ks := 0) (st := [.int 0, .ref o]) C E.cs hX.1.1 gw_good (m_remove hX F k) md_X6_remove wi_X6_remove ws_X6_remove wm_L_31 dL_remove_4 rfl (by decide) (by decide) (fun g e => by rw [e]; exact F.x) (by rw [Y.1]; rfl) rfl (by simp [Value.category]) (fun En => ?_) (fun r => X.opn (fun g hg => ?_))
  · by_cases e : En = IOE
    · subst e
      refine x_catch (name := IOE) C [] ⟨0, 16, 19, 25⟩ [] (by rw [tb]; rfl) (fun q hq => nomatch hq) (by decide) (by decide) wc_L_25 ((E.cs.gx hX).2.2.1 _ exs_IOE) (fun q => X.opn (fun g hg => ?_))
      obtain ⟨nc, -, rfl⟩ := hg
      refine o_astore_nE C dL_remove_19 (by rw [hn]; decide) rfl ?_
      refine x_iconst (v := 1) C dL_remove_20 (by decide) ?_
      exact x_iret C E dL_remove_21 (fun g e => Or.inr ⟨nc, rfl, e⟩)
    · exact Xc.no (fun g hg => e hg.2.1)
  · obtain ⟨hc, rfl, rfl⟩ := hg
    refine x_if_eq (tgt := 14) C dL_remove_7 (by decide) (fun _ => ?_) (fun q => absurd rfl q)
    refine x_lconst (v := 0) C dL_remove_14 (by decide) ?_
    refine e_lst C Y dL_remove_15 ho (vp_in_nI (n := 0) (N := 1) (by decide) (by decide)) ?_
    refine x_goto (tgt := 22) C dL_remove_16 (by decide) ?_
    refine x_iconst (v := 0) C dL_remove_22 (by decide) ?_
    exact x_iret C E dL_remove_23 (fun g e => Or.inl ⟨hc, rfl, e⟩)
theorem l_keep (hX : Wx w c) (F : FR c a h) (n : Int32) : TW w gw yL_keep cL_keep 3 (some .int) hL_keep 9 (40 * 9) 1 6 [.ref (a 0), .int n] (EQ h) (fun r g => (((0 : Int32) ≤ n ∧ n ≤ 0) ∧ r = some (.int 0) ∧ g = h) ∨ (¬ ((0 : Int32) ≤ n ∧ n ≤ 0) ∧ r = some (.int 1) ∧ g = h)) := by
  have hW := hX.1
  refine TW.intro (by decide +kernel) (Nat.le_of_ble_eq_true rfl) (fun z C E tb hn => ?_)
  have Y := Cty.of hW E.cs
  refine x_aload_n C dL_keep_0 rfl ?_
  refine x_iload_n C dL_keep_1 rfl ?_
  refine x_callVX (kc := 0) (ks := 0) (st := []) C E.cs hX.1.1 gw_good (m_keep hX F n) md_X6_keep wi_X6_keep ws_X6_keep wm_L_17 dL_keep_2 rfl (by decide) (by decide) (fun g e => by rw [e]; exact F.x) (by rw [Y.1]; rfl) rfl (by simp [Value.category]) (fun En => ?_) (fun r => X.opn (fun g hg => ?_))
  · by_cases e : En = IAE
    · subst e
      refine x_catch (name := IAE) C [] ⟨0, 5, 8, 13⟩ [] (by rw [tb]; rfl) (fun q hq => nomatch hq) (by decide) (by decide) wc_L_13 ((E.cs.gx hX).2.2.1 _ exs_IAE) (fun q => X.opn (fun g hg => ?_))
      obtain ⟨nc, -, rfl⟩ := hg
      refine o_astore_nE C dL_keep_8 (by rw [hn]; decide) rfl ?_
      refine x_iconst (v := 1) C dL_keep_9 (by decide) ?_
      exact x_iret C E dL_keep_10 (fun g e => Or.inr ⟨nc, rfl, e⟩)
    · exact Xc.no (fun g hg => e hg.2.1)
  · obtain ⟨hc, rfl, rfl⟩ := hg
    refine x_goto (tgt := 11) C dL_keep_5 (by decide) ?_
    refine x_iconst (v := 0) C dL_keep_11 (by decide) ?_
    exact x_iret C E dL_keep_12 (fun g e => Or.inl ⟨hc, rfl, e⟩)
theorem l_type (hX : Wx w c) (F : FR c a h) (ho : OU c o f0 h) (hoa : ∀ i, i < 11 → o ≠ a i) (b : Int64) (n : Int32) : TW w gw yL_type cL_type 6 (some .int) hL_type 9 (40 * 9) 1 6 [.ref (a 0), .long b, .int n, .ref o] (EQ h) (fun r g => (((1 : Int32) ≤ n ∧ n ≤ 8) ∧ r = some (.int 0) ∧ g o = some (.inl (c 1, 1, .inr (.inl (vp_updL f0 0 n.toInt64)))) ∧ ∀ q, q ≠ o → (∀ i, i < 11 → q ≠ a i) → g q = h q) ∨ (¬ ((1 : Int32) ≤ n ∧ n ≤ 8) ∧ r = some (.int 1) ∧ g = h)) := by
  have hW := hX.1
  refine TW.intro (by decide +kernel) (Nat.le_of_ble_eq_true rfl) (fun z C E tb hn => ?_)
  have Y := Cty.of hW E.cs
  refine x_aload C dL_type_0 rfl ?_
  refine x_iconst (v := 0) C dL_type_2 (by decide) ?_
  refine x_aload_n C dL_type_3 rfl ?_
  refine x_lload_n C dL_type_4 rfl ?_
  refine x_iload_n C dL_type_5 rfl ?_
  refine x_callVX (kc := 0) (ks := 0) (st := [.int 0, .ref o]) C E.cs hX.1.1 gw_good (m_type hX F b n) md_X6_type wi_X6_type ws_X6_type wm_L_7 dL_type_6 rfl (by decide) (by decide) (fun g e => by rw [e]; exact F.x) (by rw [Y.1]; rfl) rfl (by simp [Value.category]) (fun En => ?_) (fun r => X.opn (fun g hg => ?_))
  · by_cases e : En = IAE
    · subst e
      refine x_catch (name := IAE) C [] ⟨0, 11, 14, 13⟩ [⟨0, 11, 18, 15⟩] (by rw [tb]; rfl) (fun q hq => nomatch hq) (by decide) (by decide) wc_L_13 ((E.cs.gx hX).2.2.1 _ exs_IAE) (fun q => X.opn (fun g hg => ?_))
      obtain ⟨nc, -, rfl⟩ := hg
      refine o_astoreE C dL_type_14 (by rw [hn]; decide) rfl ?_
      refine x_iconst (v := 1) C dL_type_16 (by decide) ?_
      exact x_iret C E dL_type_17 (fun g e => Or.inr ⟨nc, rfl, e⟩)
    · exact Xc.no (fun g hg => e hg.2.1)
  · obtain ⟨hc, rfl, hq⟩ := hg
    refine x_i2l C dL_type_9 ?_
    refine e_lst C Y dL_type_10 (by rw [hq o (hoa 1 (by decide)) (hoa 2 (by decide))]; exact ho) (vp_in_nI (n := 0) (N := 1) (by decide) (by decide)) ?_
    refine x_goto (tgt := 22) C dL_type_11 (by decide) ?_
    refine x_iconst (v := 0) C dL_type_22 (by decide) ?_
    exact x_iret C E dL_type_23 (fun g e => Or.inl ⟨hc, rfl, by rw [e]; exact hs_self .., fun q n1 n2 => by rw [e, hs_ne n1]; exact hq q (n2 1 (by decide)) (n2 2 (by decide))⟩)
theorem l_meter (hX : Wx w c) (F : FR c a h) (k : Int32) (ad : Int32) (i : Int32) (mk : Int32) (v : Int32) (d : Int32) : TW w gw yL_meter cL_meter 8 (some .int) hL_meter 9 (40 * 9) 6 194 [.ref (a 0), .int k, .int ad, .int i, .int mk, .int v, .int d] (EQ h) (fun r g => ((((0 : Int32) ≤ k ∧ k < 12) ∧ k_good ad i mk v d) ∧ r = some (.int 0) ∧ ∀ q, h q ≠ none → (∀ i, i < 11 → q ≠ a i) → g q = h q) ∨ (¬ ((0 : Int32) ≤ k ∧ k < 12) ∧ r = some (.int 1) ∧ g = h) ∨ ((((0 : Int32) ≤ k ∧ k < 12) ∧ ¬ k_good ad i mk v d) ∧ r = some (.int 2) ∧ g = h)) := by
  have hW := hX.1
  refine TW.intro (by decide +kernel) (Nat.le_of_ble_eq_true rfl) (fun z C E tb hn => ?_)
  have Y := Cty.of hW E.cs
  refine x_aload_n C dL_meter_0 rfl ?_
  refine x_iload_n C dL_meter_1 rfl ?_
  refine x_iload_n C dL_meter_2 rfl ?_
  refine x_iload_n C dL_meter_3 rfl ?_
  refine x_iload C dL_meter_4 rfl ?_
  refine x_iload C dL_meter_6 rfl ?_
  refine x_iload C dL_meter_8 rfl ?_
  refine x_callVX (kc := 0) (ks := 0) (st := []) C E.cs hX.1.1 gw_good (m_meter hX F k ad i mk v d) md_X6_meter wi_X6_meter ws_X6_meter wm_L_27 dL_meter_10 rfl (by decide) (by decide) (fun g e => by rw [e]; exact F.x) (by rw [Y.1]; rfl) rfl (by simp [Value.category]) (fun En => ?_) (fun r => X.opn (fun g hg => ?_))
  · by_cases e : En = IOE
    · subst e
      refine x_catch (name := IOE) C [] ⟨0, 13, 16, 25⟩ [⟨0, 13, 20, 13⟩] (by rw [tb]; rfl) (fun q hq => nomatch hq) (by decide) (by decide) wc_L_25 ((E.cs.gx hX).2.2.1 _ exs_IOE) (fun q => X.opn (fun g hg => ?_))
      rcases hg with ⟨nc, -, rfl⟩ | ⟨-, e, -⟩
      rotate_left
      · exact absurd e (by decide)
      refine o_astoreE C dL_meter_16 (by rw [hn]; decide) rfl ?_
      refine x_iconst (v := 1) C dL_meter_18 (by decide) ?_
      exact x_iret C E dL_meter_19 (fun g e => Or.inr (Or.inl ⟨nc, rfl, e⟩))
    · by_cases e2 : En = IAE
      · subst e2
        refine x_catch (name := IAE) C [⟨0, 13, 16, 25⟩] ⟨0, 13, 20, 13⟩ [] (by rw [tb]; rfl) (fun q hq => by rw [List.mem_singleton.mp hq]; exact Or.inr ⟨by decide, IOE, wc_L_25, (E.cs.gx hX).2.2.2.1 _ exs_IAE _ exs_IOE (by decide)⟩) (by decide) (by decide) wc_L_13 ((E.cs.gx hX).2.2.1 _ exs_IAE) (fun q => X.opn (fun g hg => ?_))
        rcases hg with ⟨-, e, -⟩ | ⟨nc, -, rfl⟩
        · exact absurd e (by decide)
        refine o_astoreE C dL_meter_20 (by rw [hn]; decide) rfl ?_
        refine x_iconst (v := 2) C dL_meter_22 (by decide) ?_
        exact x_iret C E dL_meter_23 (fun g e => Or.inr (Or.inr ⟨nc, rfl, e⟩))
      · exact Xc.no (fun g hg => hg.elim (fun q => e q.2.1) (fun q => e2 q.2.1))
  · obtain ⟨hc, rfl, hq⟩ := hg
    refine x_goto (tgt := 24) C dL_meter_13 (by decide) ?_
    refine x_iconst (v := 0) C dL_meter_24 (by decide) ?_
    exact x_iret C E dL_meter_25 (fun g e => Or.inl ⟨hc, rfl, fun q n1 n2 => by rw [e]; exact hq q n1 (n2 4 (by decide))⟩)
end Law
