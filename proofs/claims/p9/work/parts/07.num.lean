section
/-! MeterBusModel: texts, numbers, digits. -/
section Rows
variable {z : Fx} {own : String} {cc : ByteArray} {Ts : List Cond} {kc ks pc : Nat} {A : PH → Prop} {L : List (Option Value)} {st : List Value}
theorem x_lconst (C : Cx z own cc Ts) {n : Fin 2} {v : Int64} (d : decode cc pc = .ok (.lconst n, 1)) (g : Int64.ofNat (n : Nat) = v) (k : X z kc ks A (pc + 1) L (.long v :: st)) : X z kc ks A pc L st := by
  intro H locs ls cells slots hp hS hl c1 c2
  exact lv_lconst C.x C.b d g (k H locs ls cells slots hp hS hl c1 c2)
end Rows
def f_txl (S : MS) (tx a : Nat) : Nat → MS
  | 0 => S
  | k + 1 => (((f_txl S tx a k).sa 35 (tx + k) (S.a 38 (a + k))).si 34 (nI (tx + (k + 1)))).si 40 (nI (a + (k + 1)))
theorem f_txl_38 (S : MS) (tx a k j : Nat) : (f_txl S tx a k).a 38 j = S.a 38 j := by
  induction k with
  | zero => rfl
  | succ k ih => rw [f_txl, MS.si_a, MS.si_a, sa_ne (by decide), ih]
theorem f_txl_34 (S : MS) (tx a k : Nat) (h : S.i 34 = nI tx) : (f_txl S tx a k).i 34 = nI (tx + k) := by
  cases k with
  | zero => exact h
  | succ k => rfl
theorem f_txl_40 (S : MS) (tx a k : Nat) (h : S.i 40 = nI a) : (f_txl S tx a k).i 40 = nI (a + k) := by
  cases k with
  | zero => exact h
  | succ k => rfl
def f_text (S : MS) (r tx a n : Nat) : MS := f_txl ((S.sa 32 r (nI tx)).sa 33 r (nI n)) tx a n
def f_wh (S : MS) (a : Nat) : Nat → Int64 → Int64
  | 0, v => v
  | k + 1, v => f_wh S a k ((v <<< ((8 : Int32).toInt64 &&& 63)) ||| (S.a 38 (a + k)).toInt64)
def f_whole (S : MS) (a m : Nat) : Int64 := f_wh S a m (if 0 < m ∧ 127 < S.a 38 (a + m - 1) then -1 else 0)
section Num
variable {w : Wd} {M : MW} {S : MS}
theorem s_textTo (hW : Wm w M) (r tx a n : Nat) (hr : S.i 23 = nI r) (hr1 : r < 100) (ht : S.i 34 = nI tx) (ht1 : tx + n ≤ 26000) (ha : S.i 40 = nI a) (ha1 : a + n ≤ 300) : TF w M yX7_textTo cX7_textTo 3 none 0 [.int (nI n)] S none (f_text S r tx a n) := by
  refine TM.intro hW rfl (Nat.le_of_ble_eq_true rfl) (fun z C Y E hn => ?_)
  unfold f_text at E
  generalize hS0 : (S.sa 32 r (nI tx)).sa 33 r (nI n) = S0 at E
  have t0 : S0.i 34 = nI tx := by rw [← hS0]; exact ht
  have a0 : S0.i 40 = nI a := by rw [← hS0]; exact ha
  have LP : ∀ (t b : Nat), b + t = n → X z 0 0 (MA M (f_txl S0 tx a b)) 25 [some (.ref M.o), some (.int (nI n)), some (.int (nI b))] [] := by
    intro t
    induction t with
    | zero =>
      intro b hb
      obtain rfl : b = n := by omega
      refine x_iload_n C dX7_textTo_25 rfl ?_
      refine x_iload_n C dX7_textTo_26 rfl ?_
      refine x_icmp_ge (tgt := 74) C dX7_textTo_27 (by decide) (fun c27 => ?_) (fun c27 => absurd c27 (not_not_intro (Int32.le_refl _)))
      refine m_vret C E dX7_textTo_74 ?_
      exact ⟨rfl, rfl⟩
    | succ t ih =>
      intro b hb
      have ih2 := ih (b + 1) (by omega)
      refine x_iload_n C dX7_textTo_25 rfl ?_
      refine x_iload_n C dX7_textTo_26 rfl ?_
      refine x_icmp_ge (tgt := 74) C dX7_textTo_27 (by decide) (fun c27 => absurd c27 (nI_ge (show b < n by omega) (by omega))) (fun c27 => ?_)
      refine x_aload_n C dX7_textTo_30 rfl ?_
      refine m_getA C Y 35 (by decide) (by decide) wf_X7_87 dX7_textTo_31 ?_
      refine x_aload_n C dX7_textTo_34 rfl ?_
      refine m_get C Y 34 (by decide) (by decide) wf_X7_193 dX7_textTo_35 ?_
      refine x_aload_n C dX7_textTo_38 rfl ?_
      refine m_getA C Y 38 (by decide) (by decide) wf_X7_94 dX7_textTo_39 ?_
      refine x_aload_n C dX7_textTo_42 rfl ?_
      refine m_get C Y 40 (by decide) (by decide) wf_X7_221 dX7_textTo_43 ?_
      refine m_ildN C Y 38 (a + b) (by decide) dX7_textTo_46 (f_txl_40 S0 tx a b a0) (by simp only [m_len]; omega) ?_
      rw [f_txl_38]
      refine m_istN C Y hW.2.1 35 (tx + b) (by decide) dX7_textTo_47 (f_txl_34 S0 tx a b t0) (by simp only [m_len]; omega) ?_
      refine x_aload_n C dX7_textTo_48 rfl ?_
      refine x_dup C dX7_textTo_49 rfl ?_
      refine m_get C Y 34 (by decide) (by decide) wf_X7_193 dX7_textTo_50 ?_
      rw [MS.sa_i, f_txl_34 S0 tx a b t0]
      refine x_iconst (v := 1) C dX7_textTo_53 (by decide) ?_
      refine x_iadd C dX7_textTo_54 ?_
      rw [nI_1, Nat.add_assoc]
      refine m_put C Y hW.2.1 34 (by decide) (by decide) rfl rfl rfl wf_X7_193 dX7_textTo_55 ?_
      refine x_aload_n C dX7_textTo_58 rfl ?_
      refine x_dup C dX7_textTo_59 rfl ?_
      refine m_get C Y 40 (by decide) (by decide) wf_X7_221 dX7_textTo_60 ?_
      rw [MS.si_i, if_neg (by decide), MS.sa_i, f_txl_40 S0 tx a b a0]
      refine x_iconst (v := 1) C dX7_textTo_63 (by decide) ?_
      refine x_iadd C dX7_textTo_64 ?_
      rw [nI_1, Nat.add_assoc]
      refine m_put C Y hW.2.1 40 (by decide) (by decide) rfl rfl rfl wf_X7_221 dX7_textTo_65 ?_
      refine x_iincE (v := nI (b + 1)) (L' := [some _, some _, some _]) C dX7_textTo_68 rfl (nI_1 b) (by rw [hn]; decide) rfl ?_
      refine x_goto (tgt := 25) C dX7_textTo_71 (by decide) ?_
      exact ih2
  refine x_aload_n C dX7_textTo_0 rfl ?_
  refine m_getA C Y 32 (by decide) (by decide) wf_X7_81 dX7_textTo_1 ?_
  refine x_aload_n C dX7_textTo_4 rfl ?_
  refine m_get C Y 23 (by decide) (by decide) wf_X7_190 dX7_textTo_5 ?_
  refine x_aload_n C dX7_textTo_8 rfl ?_
  refine m_get C Y 34 (by decide) (by decide) wf_X7_193 dX7_textTo_9 ?_
  rw [ht]
  refine m_istN C Y hW.2.1 32 (r) (by decide) dX7_textTo_12 hr (by simp only [m_len]; omega) ?_
  refine x_aload_n C dX7_textTo_13 rfl ?_
  refine m_getA C Y 33 (by decide) (by decide) wf_X7_84 dX7_textTo_14 ?_
  refine x_aload_n C dX7_textTo_17 rfl ?_
  refine m_get C Y 23 (by decide) (by decide) wf_X7_190 dX7_textTo_18 ?_
  refine x_iload_n C dX7_textTo_21 rfl ?_
  refine m_istN C Y hW.2.1 33 (r) (by decide) dX7_textTo_22 hr (by simp only [m_len]; omega) ?_
  refine x_iconst (v := 0) C dX7_textTo_23 (by decide) ?_
  refine x_istore_nE (L' := [some _, some _, some _]) C dX7_textTo_24 (by rw [hn]; decide) rfl ?_
  rw [hS0]; exact LP n 0 (by omega)
theorem s_whole (hW : Wm w M) (a m : Nat) (ha : S.i 40 = nI a) (hm : m ≤ 8) (ham : a + m ≤ 300) : TF w M yX7_whole cX7_whole 5 (some .long) 0 [.int (nI m)] S (some (.long (f_whole S a m))) (S.si 40 (nI (a + m))) := by
  refine TM.intro hW rfl (Nat.le_of_ble_eq_true rfl) (fun z C Y E hn => ?_)
  have LP : ∀ (k : Nat) (x : Int64), k ≤ m → f_wh S a k x = f_whole S a m → X z 0 0 (MA M S) 35 [some (.ref M.o), some (.int (nI m)), some (.long x), none, some (.int (nI k - 1))] [] := by
    intro k
    induction k with
    | zero =>
      intro x _ e
      have e : x = f_whole S a m := e
      subst e
      have e1 : (nI 0 - 1 : Int32) < 0 := by decide
      refine x_iload C dX7_whole_35 rfl ?_
      refine x_if_lt (tgt := 65) C dX7_whole_37 (by decide) (fun c37 => ?_) (fun c37 => absurd c37 (not_not_intro e1))
      refine x_aload_n C dX7_whole_65 rfl ?_
      refine x_dup C dX7_whole_66 rfl ?_
      refine m_get C Y 40 (by decide) (by decide) wf_X7_221 dX7_whole_67 ?_
      refine x_iload_n C dX7_whole_70 rfl ?_
      refine x_iadd C dX7_whole_71 ?_
      rw [ha, nI_add]
      refine m_put C Y hW.2.1 40 (by decide) (by decide) rfl rfl rfl wf_X7_221 dX7_whole_72 ?_
      refine x_lload_n C dX7_whole_75 rfl ?_
      refine m_lret C E dX7_whole_76 ?_
      exact ⟨rfl, rfl⟩
    | succ k ih =>
      intro x hk e
      have ih2 := ih _ (by omega) e
      rw [nI_pred]
      refine x_iload C dX7_whole_35 rfl ?_
      refine x_if_lt (tgt := 65) C dX7_whole_37 (by decide) (fun c37 => absurd c37 (nI_pos (by omega))) (fun c37 => ?_)
      refine x_lload_n C dX7_whole_40 rfl ?_
      refine x_bipush (v := 8) C dX7_whole_41 (by decide) ?_
      refine x_lshl C dX7_whole_43 ?_
      refine x_aload_n C dX7_whole_44 rfl ?_
      refine m_getA C Y 38 (by decide) (by decide) wf_X7_94 dX7_whole_45 ?_
      refine x_aload_n C dX7_whole_48 rfl ?_
      refine m_get C Y 40 (by decide) (by decide) wf_X7_221 dX7_whole_49 ?_
      refine x_iload C dX7_whole_52 rfl ?_
      refine x_iadd C dX7_whole_54 ?_
      refine m_ildN C Y 38 (a + k) (by decide) dX7_whole_55 (by rw [ha, nI_add]) (by simp only [m_len]; omega) ?_
      refine x_i2l C dX7_whole_56 ?_
      refine x_lor C dX7_whole_57 ?_
      refine x_lstore_nE (L' := [some _, some _, some _, none, some _]) C dX7_whole_58 (by rw [hn]; decide) rfl ?_
      refine x_iincE (v := nI k - 1) (L' := [some _, some _, some _, none, some _]) C dX7_whole_59 rfl ((by rw [Int32.sub_eq_add_neg]; rfl)) (by rw [hn]; decide) rfl ?_
      refine x_goto (tgt := 35) C dX7_whole_62 (by decide) ?_
      exact ih2
  have i0 : nI m ≤ 0 ↔ ¬ 0 < m := by rw [show (0 : Int32) = nI 0 from rfl, nI_leI (by omega) (by omega)]; omega
  have T29 : ∀ x : Int64, x = (if 0 < m ∧ 127 < S.a 38 (a + m - 1) then -1 else 0) → X z 0 0 (MA M S) 29 [some (.ref M.o), some (.int (nI m)), none, none, none] [.long x] := by
    intro x ex
    have L0 := LP m x (Nat.le_refl m) (by rw [ex]; rfl)
    refine x_lstore_nE (L' := [some _, some _, some _, none, none]) C dX7_whole_29 (by rw [hn]; decide) rfl ?_
    refine x_iload_n C dX7_whole_30 rfl ?_
    refine x_iconst (v := 1) C dX7_whole_31 (by decide) ?_
    refine x_isub C dX7_whole_32 ?_
    refine x_istoreE (L' := [some _, some _, some _, none, some _]) C dX7_whole_33 (by rw [hn]; decide) rfl ?_
    exact L0
  have c127 : S.a 38 (a + m - 1) ≤ 127 ↔ ¬ 127 < S.a 38 (a + m - 1) := Int32.not_lt.symm
  refine x_iload_n C dX7_whole_0 rfl ?_
  refine x_if_le (tgt := 28) C dX7_whole_1 (by decide) (fun c1 => ?_) (fun c1 => ?_)
  · skip
    refine x_lconst (v := 0) C dX7_whole_28 (by decide) ?_
    first | exact T29 _ (if_neg (fun q => i0.mp c1 q.1)).symm | exact T29 _ (if_neg (fun q => c127.mp c19 q.2)).symm | exact T29 _ (if_pos ⟨m0, Classical.not_not.mp (fun q => c19 (c127.mpr q))⟩).symm
  · skip
    have m0 : 0 < m := Classical.not_not.mp (fun q => c1 (i0.mpr q))
    refine x_aload_n C dX7_whole_4 rfl ?_
    refine m_getA C Y 38 (by decide) (by decide) wf_X7_94 dX7_whole_5 ?_
    refine x_aload_n C dX7_whole_8 rfl ?_
    refine m_get C Y 40 (by decide) (by decide) wf_X7_221 dX7_whole_9 ?_
    refine x_iload_n C dX7_whole_12 rfl ?_
    refine x_iadd C dX7_whole_13 ?_
    refine x_iconst (v := 1) C dX7_whole_14 (by decide) ?_
    refine x_isub C dX7_whole_15 ?_
    refine m_ildN C Y 38 (a + m - 1) (by decide) dX7_whole_16 (by rw [ha, nI_add, show (1 : Int32) = nI 1 from rfl, pk_sub (by omega)]) (by simp only [m_len]; omega) ?_
    refine x_bipush (v := 127) C dX7_whole_17 (by decide) ?_
    refine x_icmp_le (tgt := 28) C dX7_whole_19 (by decide) (fun c19 => ?_) (fun c19 => ?_)
    · skip
      refine x_lconst (v := 0) C dX7_whole_28 (by decide) ?_
      first | exact T29 _ (if_neg (fun q => i0.mp c1 q.1)).symm | exact T29 _ (if_neg (fun q => c127.mp c19 q.2)).symm | exact T29 _ (if_pos ⟨m0, Classical.not_not.mp (fun q => c19 (c127.mpr q))⟩).symm
    · skip
      refine x_ldc2 C wk_X7_239 dX7_whole_22 ?_
      refine x_goto (tgt := 29) C dX7_whole_25 (by decide) ?_
      first | exact T29 _ (if_neg (fun q => i0.mp c1 q.1)).symm | exact T29 _ (if_neg (fun q => c127.mp c19 q.2)).symm | exact T29 _ (if_pos ⟨m0, Classical.not_not.mp (fun q => c19 (c127.mpr q))⟩).symm
end Num
end
section
/-! MeterBusModel: digits. -/
abbrev f_bd (S : MS) (a m : Nat) (mi : Bool) (k : Nat) : Prop := 9 < S.a 38 (a + k) &&& 15 ∨ (¬ (mi = true ∧ k + 1 = m) ∧ ¬ S.a 38 (a + k) >>> ((4 : Int32) &&& 31) ≤ 9)
def f_dg (S : MS) (a m : Nat) (mi : Bool) : Nat → MS
  | 0 => S
  | k + 1 => if f_bd S a m mi k then f_bl (f_dg S a m mi k) 7 (nI (a + k)) else f_dg S a m mi k
theorem f_bl_a (S : MS) (x y : Int32) (q j : Nat) : (f_bl S x y).a q j = S.a q j := by unfold f_bl; split <;> rfl
theorem f_bl_i (S : MS) (x y : Int32) {q : Nat} (h1 : q ≠ 41) (h2 : q ≠ 36) : (f_bl S x y).i q = S.i q := by
  unfold f_bl
  split
  · rw [MS.si_i, if_neg h2, MS.si_i, if_neg h1]
  · rfl
theorem f_bl_w (S : MS) (x y : Int32) (q j : Nat) : (f_bl S x y).w q j = S.w q j := by unfold f_bl; split <;> rfl
theorem f_dg_a (S : MS) (a m : Nat) (mi : Bool) (k q j : Nat) : (f_dg S a m mi k).a q j = S.a q j := by
  induction k with
  | zero => rfl
  | succ k ih =>
    rw [f_dg]
    split
    · rw [f_bl_a, ih]
    · exact ih
theorem f_dg_i (S : MS) (a m : Nat) (mi : Bool) (k : Nat) {q : Nat} (h1 : q ≠ 41) (h2 : q ≠ 36) : (f_dg S a m mi k).i q = S.i q := by
  induction k with
  | zero => rfl
  | succ k ih =>
    rw [f_dg]
    split
    · rw [f_bl_i _ _ _ h1 h2, ih]
    · exact ih
def f_dv (S : MS) (a m : Nat) (mi : Bool) : Nat → Int64 → Int64
  | 0, v => v
  | k + 1, v => f_dv S a m mi k (100 * v + (if mi = true ∧ k + 1 = m then (0 : Int32) else 10 * (S.a 38 (a + k) >>> ((4 : Int32) &&& 31))).toInt64 + (S.a 38 (a + k) &&& 15).toInt64)
def f_mi (S : MS) (a m : Nat) (sg : Bool) : Bool := decide (sg = true ∧ 0 < m ∧ S.a 38 (a + m - 1) >>> ((4 : Int32) &&& 31) = 15)
def f_dig (S : MS) (a m : Nat) (sg : Bool) : Int64 := if f_mi S a m sg = true then -(f_dv S a m (f_mi S a m sg) m 0) else f_dv S a m (f_mi S a m sg) m 0
def f_digS (S : MS) (a m : Nat) (sg : Bool) : MS := (f_dg S a m (f_mi S a m sg) m).si 40 (nI (a + m))
section Digits
variable {w : Wd} {M : MW} {S : MS} {z : Fx} {post : Option Value → MS → Prop}
/-- the first loop: looks at the digits -/
theorem dg1 (hW : Wm w M) (C : Cx z RX7 cX7_digits gw) (Y : Mty z M) (E : Ct z w gw yX7_digits (some .long) 1 (40 * 1) (PM M post)) (hn : z.nL = 8) (a m : Nat) (sv : Int32) (mi : Bool) (ha : S.i 40 = nI a) (hm : m ≤ 10) (ham : a + m ≤ 300)
    (kk : ∀ l4 l5 l6 : Option Value, X z 0 0 (MA M (f_dg S a m mi m)) 134 [some (.ref M.o), some (.int (nI m)), some (.int sv), some (.int (bI (mi = true))), l4, l5, l6, none] []) :
    ∀ (t k : Nat) (l5 l6 : Option Value), k + t = m → X z 0 0 (MA M (f_dg S a m mi k)) 37 [some (.ref M.o), some (.int (nI m)), some (.int sv), some (.int (bI (mi = true))), some (.int (nI k)), l5, l6, none] [] := by
  intro t
  induction t with
  | zero =>
    intro k l5 l6 hk
    obtain rfl : k = m := by omega
    refine x_iload C dX7_digits_37 rfl ?_
    refine x_iload_n C dX7_digits_39 rfl ?_
    refine x_icmp_ge (tgt := 134) C dX7_digits_40 (by decide) (fun c40 => ?_) (fun c40 => absurd c40 (not_not_intro (Int32.le_refl _)))
    exact kk _ _ _
  | succ t ih =>
    intro k l5 l6 hk
    have e40 : (f_dg S a m mi k).i 40 = nI a := by rw [f_dg_i _ _ _ _ _ (by decide) (by decide)]; exact ha
    have cm : nI k = nI m - 1 ↔ k + 1 = m := by rw [show (1 : Int32) = nI 1 from rfl, pk_sub (by omega), nI_eq (by omega) (by omega)]; omega
    have T128 : ∀ (S1 : MS) (l5 l6 : Option Value), S1 = f_dg S a m mi (k + 1) → X z 0 0 (MA M S1) 128 [some (.ref M.o), some (.int (nI m)), some (.int sv), some (.int (bI (mi = true))), some (.int (nI k)), l5, l6, none] [] := by
      intro S1 l5 l6 e
      subst e
      have ih2 := ih (k + 1) l5 l6 (by omega)
      refine x_iincE (v := nI (k + 1)) (L' := [some _, some _, some _, some _, some _, _, _, none]) C dX7_digits_128 rfl (nI_1 k) (by rw [hn]; decide) rfl ?_
      refine x_goto (tgt := 37) C dX7_digits_131 (by decide) ?_
      exact ih2
    have T60 : ∀ x : Int32, x = bI (mi = true ∧ k + 1 = m) → X z 0 0 (MA M (f_dg S a m mi k)) 60 [some (.ref M.o), some (.int (nI m)), some (.int sv), some (.int (bI (mi = true))), some (.int (nI k)), l5, l6, none] [.int x] := by
      intro x ex
      by_cases hb : f_bd S a m mi k
      · have e : f_dg S a m mi (k + 1) = f_bl (f_dg S a m mi k) 7 (nI (a + k)) := by rw [f_dg, if_pos hb]
        rw [e] at T128
        have T106 : X z 0 0 (MA M (f_dg S a m mi k)) 106 [some (.ref M.o), some (.int (nI m)), some (.int sv), some (.int (bI (mi = true))), some (.int (nI k)), some (.int x), l6, none] [] := by
          refine x_aload_n C dX7_digits_106 rfl ?_
          refine m_get C Y 41 (by decide) (by decide) wf_X7_204 dX7_digits_107 ?_
          refine x_if_ne (tgt := 128) C dX7_digits_110 (by decide) (fun c110 => ?_) (fun c110 => ?_)
          · skip
            first | exact T128 _ _ _ rfl | exact T128 _ _ _ (if_neg c110).symm
          · skip
            refine x_aload_n C dX7_digits_113 rfl ?_
            refine x_bipush (v := 7) C dX7_digits_114 (by decide) ?_
            refine x_aload_n C dX7_digits_116 rfl ?_
            refine m_get C Y 40 (by decide) (by decide) wf_X7_221 dX7_digits_117 ?_
            refine x_iload C dX7_digits_120 rfl ?_
            rw [e40]
            refine x_iadd C dX7_digits_122 ?_
            rw [nI_add]
            refine m_callF C Y hW E (s_blame hW _ _) rfl md_X7_blame wi_X7_blame ws_X7_blame wm_X7_207 dX7_digits_123 rfl (by decide) (by decide) rfl (by simp [Value.category]) ?_
            refine x_istoreE (L' := [some _, some _, some _, some _, some _, some _, some _, none]) C dX7_digits_126 (by rw [hn]; decide) rfl ?_
            first | exact T128 _ _ _ rfl | exact T128 _ _ _ (if_neg c110).symm
        refine x_istoreE (L' := [some _, some _, some _, some _, some _, some _, _, none]) C dX7_digits_60 (by rw [hn]; decide) rfl ?_
        refine x_aload_n C dX7_digits_62 rfl ?_
        refine m_getA C Y 38 (by decide) (by decide) wf_X7_94 dX7_digits_63 ?_
        refine x_aload_n C dX7_digits_66 rfl ?_
        refine m_get C Y 40 (by decide) (by decide) wf_X7_221 dX7_digits_67 ?_
        refine x_iload C dX7_digits_70 rfl ?_
        refine x_iadd C dX7_digits_72 ?_
        refine m_ildN C Y 38 (a + k) (by decide) dX7_digits_73 (by rw [e40, nI_add]) (by simp only [m_len]; omega) ?_
        rw [f_dg_a]
        refine x_bipush (v := 15) C dX7_digits_74 (by decide) ?_
        refine x_iand C dX7_digits_76 ?_
        refine x_bipush (v := 9) C dX7_digits_77 (by decide) ?_
        refine x_icmp_gt (tgt := 106) C dX7_digits_79 (by decide) (fun c79 => ?_) (fun c79 => ?_)
        · skip
          exact T106
        · skip
          refine x_iload C dX7_digits_82 rfl ?_
          refine x_if_ne (tgt := 128) C dX7_digits_84 (by decide) (fun c84 => ?_) (fun c84 => ?_)
          · skip
            first | exact absurd hb (fun q => q.elim (fun r => c79 r) (fun r => r.2 c103)) | exact absurd hb (fun q => q.elim (fun r => c79 r) (fun r => r.1 (bI_0n.mp (ex ▸ c84))))
          · skip
            refine x_aload_n C dX7_digits_87 rfl ?_
            refine m_getA C Y 38 (by decide) (by decide) wf_X7_94 dX7_digits_88 ?_
            refine x_aload_n C dX7_digits_91 rfl ?_
            refine m_get C Y 40 (by decide) (by decide) wf_X7_221 dX7_digits_92 ?_
            refine x_iload C dX7_digits_95 rfl ?_
            refine x_iadd C dX7_digits_97 ?_
            refine m_ildN C Y 38 (a + k) (by decide) dX7_digits_98 (by rw [e40, nI_add]) (by simp only [m_len]; omega) ?_
            rw [f_dg_a]
            refine x_iconst (v := 4) C dX7_digits_99 (by decide) ?_
            refine x_ishr C dX7_digits_100 ?_
            refine x_bipush (v := 9) C dX7_digits_101 (by decide) ?_
            refine x_icmp_le (tgt := 128) C dX7_digits_103 (by decide) (fun c103 => ?_) (fun c103 => ?_)
            · skip
              first | exact absurd hb (fun q => q.elim (fun r => c79 r) (fun r => r.2 c103)) | exact absurd hb (fun q => q.elim (fun r => c79 r) (fun r => r.1 (bI_0n.mp (ex ▸ c84))))
            · skip
              exact T106
      · have e : f_dg S a m mi (k + 1) = f_dg S a m mi k := by rw [f_dg, if_neg hb]
        rw [e] at T128
        refine x_istoreE (L' := [some _, some _, some _, some _, some _, some _, _, none]) C dX7_digits_60 (by rw [hn]; decide) rfl ?_
        refine x_aload_n C dX7_digits_62 rfl ?_
        refine m_getA C Y 38 (by decide) (by decide) wf_X7_94 dX7_digits_63 ?_
        refine x_aload_n C dX7_digits_66 rfl ?_
        refine m_get C Y 40 (by decide) (by decide) wf_X7_221 dX7_digits_67 ?_
        refine x_iload C dX7_digits_70 rfl ?_
        refine x_iadd C dX7_digits_72 ?_
        refine m_ildN C Y 38 (a + k) (by decide) dX7_digits_73 (by rw [e40, nI_add]) (by simp only [m_len]; omega) ?_
        rw [f_dg_a]
        refine x_bipush (v := 15) C dX7_digits_74 (by decide) ?_
        refine x_iand C dX7_digits_76 ?_
        refine x_bipush (v := 9) C dX7_digits_77 (by decide) ?_
        refine x_icmp_gt (tgt := 106) C dX7_digits_79 (by decide) (fun c79 => ?_) (fun c79 => ?_)
        · skip
          first | exact absurd (Or.inl c79) hb | exact absurd (Or.inr ⟨bI_0.mp (ex ▸ c84), c103⟩) hb
        · skip
          refine x_iload C dX7_digits_82 rfl ?_
          refine x_if_ne (tgt := 128) C dX7_digits_84 (by decide) (fun c84 => ?_) (fun c84 => ?_)
          · skip
            exact T128 _ _ _ rfl
          · skip
            refine x_aload_n C dX7_digits_87 rfl ?_
            refine m_getA C Y 38 (by decide) (by decide) wf_X7_94 dX7_digits_88 ?_
            refine x_aload_n C dX7_digits_91 rfl ?_
            refine m_get C Y 40 (by decide) (by decide) wf_X7_221 dX7_digits_92 ?_
            refine x_iload C dX7_digits_95 rfl ?_
            refine x_iadd C dX7_digits_97 ?_
            refine m_ildN C Y 38 (a + k) (by decide) dX7_digits_98 (by rw [e40, nI_add]) (by simp only [m_len]; omega) ?_
            rw [f_dg_a]
            refine x_iconst (v := 4) C dX7_digits_99 (by decide) ?_
            refine x_ishr C dX7_digits_100 ?_
            refine x_bipush (v := 9) C dX7_digits_101 (by decide) ?_
            refine x_icmp_le (tgt := 128) C dX7_digits_103 (by decide) (fun c103 => ?_) (fun c103 => ?_)
            · skip
              exact T128 _ _ _ rfl
            · skip
              first | exact absurd (Or.inl c79) hb | exact absurd (Or.inr ⟨bI_0.mp (ex ▸ c84), c103⟩) hb
    refine x_iload C dX7_digits_37 rfl ?_
    refine x_iload_n C dX7_digits_39 rfl ?_
    refine x_icmp_ge (tgt := 134) C dX7_digits_40 (by decide) (fun c40 => absurd c40 (nI_ge (show k < m by omega) (by omega))) (fun c40 => ?_)
    refine x_iload_n C dX7_digits_43 rfl ?_
    refine x_if_eq (tgt := 59) C dX7_digits_44 (by decide) (fun c44 => ?_) (fun c44 => ?_)
    · skip
      refine x_iconst (v := 0) C dX7_digits_59 (by decide) ?_
      first | exact T60 _ (bI_00 (fun q => bI_0.mp c44 q.1)) | exact T60 _ (bI_00 (fun q => c52 (cm.mpr q.2))) | exact T60 _ (bI_1 ⟨bI_0n.mp c44, cm.mp c52⟩)
    · skip
      refine x_iload C dX7_digits_47 rfl ?_
      refine x_iload_n C dX7_digits_49 rfl ?_
      refine x_iconst (v := 1) C dX7_digits_50 (by decide) ?_
      refine x_isub C dX7_digits_51 ?_
      refine x_icmp_ne (tgt := 59) C dX7_digits_52 (by decide) (fun c52 => ?_) (fun c52 => ?_)
      · skip
        refine x_iconst (v := 0) C dX7_digits_59 (by decide) ?_
        first | exact T60 _ (bI_00 (fun q => bI_0.mp c44 q.1)) | exact T60 _ (bI_00 (fun q => c52 (cm.mpr q.2))) | exact T60 _ (bI_1 ⟨bI_0n.mp c44, cm.mp c52⟩)
      · skip
        refine x_iconst (v := 1) C dX7_digits_55 (by decide) ?_
        refine x_goto (tgt := 60) C dX7_digits_56 (by decide) ?_
        first | exact T60 _ (bI_00 (fun q => bI_0.mp c44 q.1)) | exact T60 _ (bI_00 (fun q => c52 (cm.mpr q.2))) | exact T60 _ (bI_1 ⟨bI_0n.mp c44, cm.mp c52⟩)
/-- the second loop: the number -/
theorem dg2 (hW : Wm w M) (C : Cx z RX7 cX7_digits gw) (Y : Mty z M) (E : Ct z w gw yX7_digits (some .long) 1 (40 * 1) (PM M post)) (hn : z.nL = 8) (a m : Nat) (sv : Int32) (mi : Bool) (S1 : MS) (h38 : ∀ j, S1.a 38 j = S.a 38 j) (ha : S1.i 40 = nI a) (hm : m ≤ 10) (ham : a + m ≤ 300) (R : Int64)
    (kk : ∀ l6 l7 : Option Value, X z 0 0 (MA M S1) 225 [some (.ref M.o), some (.int (nI m)), some (.int sv), some (.int (bI (mi = true))), some (.long R), none, l6, l7] []) :
    ∀ (k : Nat) (x : Int64) (l7 : Option Value), k ≤ m → f_dv S a m mi k x = R → X z 0 0 (MA M S1) 142 [some (.ref M.o), some (.int (nI m)), some (.int sv), some (.int (bI (mi = true))), some (.long x), none, some (.int (nI k - 1)), l7] [] := by
  intro k
  induction k with
  | zero =>
    intro x l7 _ e
    have e : x = R := e
    subst e
    have e1 : (nI 0 - 1 : Int32) < 0 := by decide
    refine x_iload C dX7_digits_142 rfl ?_
    refine x_if_lt (tgt := 225) C dX7_digits_144 (by decide) (fun c144 => ?_) (fun c144 => absurd c144 (not_not_intro e1))
    exact kk _ _
  | succ k ih =>
    intro x l7 hk e
    rw [nI_pred]
    have cm : nI k = nI m - 1 ↔ k + 1 = m := by rw [show (1 : Int32) = nI 1 from rfl, pk_sub (by omega), nI_eq (by omega) (by omega)]; omega
    have T198 : ∀ (s y : Int32), y = (if mi = true ∧ k + 1 = m then (0 : Int32) else 10 * (S.a 38 (a + k) >>> ((4 : Int32) &&& 31))) → X z 0 0 (MA M S1) 198 [some (.ref M.o), some (.int (nI m)), some (.int sv), some (.int (bI (mi = true))), some (.long x), none, some (.int (nI k)), some (.int s)] [.int y, .long (100 * x)] := by
      intro s y ey
      subst ey
      have ih2 := ih _ (some (.int s)) (by omega) e
      refine x_i2l C dX7_digits_198 ?_
      refine x_ladd C dX7_digits_199 ?_
      refine x_aload_n C dX7_digits_200 rfl ?_
      refine m_getA C Y 38 (by decide) (by decide) wf_X7_94 dX7_digits_201 ?_
      refine x_aload_n C dX7_digits_204 rfl ?_
      refine m_get C Y 40 (by decide) (by decide) wf_X7_221 dX7_digits_205 ?_
      refine x_iload C dX7_digits_208 rfl ?_
      refine x_iadd C dX7_digits_210 ?_
      refine m_ildN C Y 38 (a + k) (by decide) dX7_digits_211 (by rw [ha, nI_add]) (by simp only [m_len]; omega) ?_
      rw [h38]
      refine x_bipush (v := 15) C dX7_digits_212 (by decide) ?_
      refine x_iand C dX7_digits_214 ?_
      refine x_i2l C dX7_digits_215 ?_
      refine x_ladd C dX7_digits_216 ?_
      refine x_lstoreE (L' := [some _, some _, some _, some _, some _, none, some _, some _]) C dX7_digits_217 (by rw [hn]; decide) rfl ?_
      refine x_iincE (v := nI k - 1) (L' := [some _, some _, some _, some _, some _, none, some _, some _]) C dX7_digits_219 rfl ((by rw [Int32.sub_eq_add_neg]; rfl)) (by rw [hn]; decide) rfl ?_
      refine x_goto (tgt := 142) C dX7_digits_222 (by decide) ?_
      exact ih2
    have T164 : ∀ s : Int32, s = bI (mi = true ∧ k + 1 = m) → X z 0 0 (MA M S1) 164 [some (.ref M.o), some (.int (nI m)), some (.int sv), some (.int (bI (mi = true))), some (.long x), none, some (.int (nI k)), l7] [.int s] := by
      intro s es
      refine x_istoreE (L' := [some _, some _, some _, some _, some _, none, some _, some _]) C dX7_digits_164 (by rw [hn]; decide) rfl ?_
      refine x_ldc2 C wk_X7_241 dX7_digits_166 ?_
      refine x_lload C dX7_digits_169 rfl ?_
      refine x_lmul C dX7_digits_171 ?_
      refine x_iload C dX7_digits_172 rfl ?_
      refine x_if_eq (tgt := 181) C dX7_digits_174 (by decide) (fun c174 => ?_) (fun c174 => ?_)
      · skip
        refine x_bipush (v := 10) C dX7_digits_181 (by decide) ?_
        refine x_aload_n C dX7_digits_183 rfl ?_
        refine m_getA C Y 38 (by decide) (by decide) wf_X7_94 dX7_digits_184 ?_
        refine x_aload_n C dX7_digits_187 rfl ?_
        refine m_get C Y 40 (by decide) (by decide) wf_X7_221 dX7_digits_188 ?_
        refine x_iload C dX7_digits_191 rfl ?_
        refine x_iadd C dX7_digits_193 ?_
        refine m_ildN C Y 38 (a + k) (by decide) dX7_digits_194 (by rw [ha, nI_add]) (by simp only [m_len]; omega) ?_
        rw [h38]
        refine x_iconst (v := 4) C dX7_digits_195 (by decide) ?_
        refine x_ishr C dX7_digits_196 ?_
        refine x_imul C dX7_digits_197 ?_
        first | exact T198 _ _ (if_neg (bI_0.mp (es ▸ c174))).symm | exact T198 _ _ (if_pos (bI_0n.mp (es ▸ c174))).symm
      · skip
        refine x_iconst (v := 0) C dX7_digits_177 (by decide) ?_
        refine x_goto (tgt := 198) C dX7_digits_178 (by decide) ?_
        first | exact T198 _ _ (if_neg (bI_0.mp (es ▸ c174))).symm | exact T198 _ _ (if_pos (bI_0n.mp (es ▸ c174))).symm
    refine x_iload C dX7_digits_142 rfl ?_
    refine x_if_lt (tgt := 225) C dX7_digits_144 (by decide) (fun c144 => absurd c144 (nI_pos (by omega))) (fun c144 => ?_)
    refine x_iload_n C dX7_digits_147 rfl ?_
    refine x_if_eq (tgt := 163) C dX7_digits_148 (by decide) (fun c148 => ?_) (fun c148 => ?_)
    · skip
      refine x_iconst (v := 0) C dX7_digits_163 (by decide) ?_
      first | exact T164 _ (bI_00 (fun q => bI_0.mp c148 q.1)) | exact T164 _ (bI_00 (fun q => c156 (cm.mpr q.2))) | exact T164 _ (bI_1 ⟨bI_0n.mp c148, cm.mp c156⟩)
    · skip
      refine x_iload C dX7_digits_151 rfl ?_
      refine x_iload_n C dX7_digits_153 rfl ?_
      refine x_iconst (v := 1) C dX7_digits_154 (by decide) ?_
      refine x_isub C dX7_digits_155 ?_
      refine x_icmp_ne (tgt := 163) C dX7_digits_156 (by decide) (fun c156 => ?_) (fun c156 => ?_)
      · skip
        refine x_iconst (v := 0) C dX7_digits_163 (by decide) ?_
        first | exact T164 _ (bI_00 (fun q => bI_0.mp c148 q.1)) | exact T164 _ (bI_00 (fun q => c156 (cm.mpr q.2))) | exact T164 _ (bI_1 ⟨bI_0n.mp c148, cm.mp c156⟩)
      · skip
        refine x_iconst (v := 1) C dX7_digits_159 (by decide) ?_
        refine x_goto (tgt := 164) C dX7_digits_160 (by decide) ?_
        first | exact T164 _ (bI_00 (fun q => bI_0.mp c148 q.1)) | exact T164 _ (bI_00 (fun q => c156 (cm.mpr q.2))) | exact T164 _ (bI_1 ⟨bI_0n.mp c148, cm.mp c156⟩)
theorem s_digits (hW : Wm w M) (a m : Nat) (sg : Bool) (ha : S.i 40 = nI a) (hm : m ≤ 10) (ham : a + m ≤ 300) : TF w M yX7_digits cX7_digits 8 (some .long) 1 [.int (nI m), .int (bI (sg = true))] S (some (.long (f_dig S a m sg))) (f_digS S a m sg) := by
  refine TM.intro hW rfl (Nat.le_of_ble_eq_true rfl) (fun z C Y E hn => ?_)
  unfold f_dig f_digS at E
  have i0 : nI m ≤ 0 ↔ ¬ 0 < m := by rw [show (0 : Int32) = nI 0 from rfl, nI_leI (by omega) (by omega)]; omega
  have T33 : ∀ x : Int32, x = bI (f_mi S a m sg = true) → X z 0 0 (MA M S) 33 [some (.ref M.o), some (.int (nI m)), some (.int (bI (sg = true))), none, none, none, none, none] [.int x] := by
    intro x ex
    subst ex
    generalize f_mi S a m sg = mi at E
    refine x_istore_nE (L' := [some _, some _, some _, some _, none, none, none, none]) C dX7_digits_33 (by rw [hn]; decide) rfl ?_
    refine x_iconst (v := 0) C dX7_digits_34 (by decide) ?_
    refine x_istoreE (L' := [some _, some _, some _, some _, some _, none, none, none]) C dX7_digits_35 (by rw [hn]; decide) rfl ?_
    refine dg1 hW C Y E hn a m _ mi ha hm ham (fun l4 l5 l6 => ?_) m 0 none none (by omega)
    have h38 : ∀ j, (f_dg S a m mi m).a 38 j = S.a 38 j := fun j => f_dg_a S a m mi m 38 j
    have h40 : (f_dg S a m mi m).i 40 = nI a := by rw [f_dg_i _ _ _ _ _ (by decide) (by decide)]; exact ha
    generalize f_dg S a m mi m = S1 at E h38 h40 ⊢
    refine x_lconst (v := 0) C dX7_digits_134 (by decide) ?_
    refine x_lstoreE (L' := [some _, some _, some _, some _, some _, none, _, none]) C dX7_digits_135 (by rw [hn]; decide) rfl ?_
    refine x_iload_n C dX7_digits_137 rfl ?_
    refine x_iconst (v := 1) C dX7_digits_138 (by decide) ?_
    refine x_isub C dX7_digits_139 ?_
    refine x_istoreE (L' := [some _, some _, some _, some _, some _, none, some _, none]) C dX7_digits_140 (by rw [hn]; decide) rfl ?_
    refine dg2 (S := S) hW C Y E hn a m _ mi S1 h38 h40 hm ham (f_dv S a m mi m 0) (fun l6 l7 => ?_) m 0 none (Nat.le_refl m) rfl
    refine x_aload_n C dX7_digits_225 rfl ?_
    refine x_dup C dX7_digits_226 rfl ?_
    refine m_get C Y 40 (by decide) (by decide) wf_X7_221 dX7_digits_227 ?_
    refine x_iload_n C dX7_digits_230 rfl ?_
    refine x_iadd C dX7_digits_231 ?_
    rw [h40, nI_add]
    refine m_put C Y hW.2.1 40 (by decide) (by decide) rfl rfl rfl wf_X7_221 dX7_digits_232 ?_
    refine x_iload_n C dX7_digits_235 rfl ?_
    refine x_if_eq (tgt := 245) C dX7_digits_236 (by decide) (fun c236 => ?_) (fun c236 => ?_)
    · skip
      refine x_lload C dX7_digits_245 rfl ?_
      refine m_lret C E dX7_digits_247 ?_
      first | exact ⟨congrArg (fun t => some (Value.long t)) (if_neg (bI_0.mp c236)).symm, rfl⟩ | exact ⟨congrArg (fun t => some (Value.long t)) (if_pos (bI_0n.mp c236)).symm, rfl⟩
    · skip
      refine x_lload C dX7_digits_239 rfl ?_
      refine x_lneg C dX7_digits_241 ?_
      refine x_goto (tgt := 247) C dX7_digits_242 (by decide) ?_
      refine m_lret C E dX7_digits_247 ?_
      first | exact ⟨congrArg (fun t => some (Value.long t)) (if_neg (bI_0.mp c236)).symm, rfl⟩ | exact ⟨congrArg (fun t => some (Value.long t)) (if_pos (bI_0n.mp c236)).symm, rfl⟩
  refine x_iload_n C dX7_digits_0 rfl ?_
  refine x_if_eq (tgt := 32) C dX7_digits_1 (by decide) (fun c1 => ?_) (fun c1 => ?_)
  · skip
    refine x_iconst (v := 0) C dX7_digits_32 (by decide) ?_
    first | exact T33 _ (bI_00 (fun q => bI_0.mp c1 (of_decide_eq_true q).1)) | exact T33 _ (bI_00 (fun q => i0.mp c5 (of_decide_eq_true q).2.1)) | exact T33 _ (bI_00 (fun q => c25 (of_decide_eq_true q).2.2)) | exact T33 _ (bI_1 (decide_eq_true ⟨bI_0n.mp c1, m0, c25⟩))
  · skip
    refine x_iload_n C dX7_digits_4 rfl ?_
    refine x_if_le (tgt := 32) C dX7_digits_5 (by decide) (fun c5 => ?_) (fun c5 => ?_)
    · skip
      refine x_iconst (v := 0) C dX7_digits_32 (by decide) ?_
      first | exact T33 _ (bI_00 (fun q => bI_0.mp c1 (of_decide_eq_true q).1)) | exact T33 _ (bI_00 (fun q => i0.mp c5 (of_decide_eq_true q).2.1)) | exact T33 _ (bI_00 (fun q => c25 (of_decide_eq_true q).2.2)) | exact T33 _ (bI_1 (decide_eq_true ⟨bI_0n.mp c1, m0, c25⟩))
    · skip
      have m0 : 0 < m := Classical.not_not.mp (fun q => c5 (i0.mpr q))
      refine x_aload_n C dX7_digits_8 rfl ?_
      refine m_getA C Y 38 (by decide) (by decide) wf_X7_94 dX7_digits_9 ?_
      refine x_aload_n C dX7_digits_12 rfl ?_
      refine m_get C Y 40 (by decide) (by decide) wf_X7_221 dX7_digits_13 ?_
      refine x_iload_n C dX7_digits_16 rfl ?_
      refine x_iadd C dX7_digits_17 ?_
      refine x_iconst (v := 1) C dX7_digits_18 (by decide) ?_
      refine x_isub C dX7_digits_19 ?_
      refine m_ildN C Y 38 (a + m - 1) (by decide) dX7_digits_20 (by rw [ha, nI_add, show (1 : Int32) = nI 1 from rfl, pk_sub (by omega)]) (by simp only [m_len]; omega) ?_
      refine x_iconst (v := 4) C dX7_digits_21 (by decide) ?_
      refine x_ishr C dX7_digits_22 ?_
      refine x_bipush (v := 15) C dX7_digits_23 (by decide) ?_
      refine x_icmp_ne (tgt := 32) C dX7_digits_25 (by decide) (fun c25 => ?_) (fun c25 => ?_)
      · skip
        refine x_iconst (v := 0) C dX7_digits_32 (by decide) ?_
        first | exact T33 _ (bI_00 (fun q => bI_0.mp c1 (of_decide_eq_true q).1)) | exact T33 _ (bI_00 (fun q => i0.mp c5 (of_decide_eq_true q).2.1)) | exact T33 _ (bI_00 (fun q => c25 (of_decide_eq_true q).2.2)) | exact T33 _ (bI_1 (decide_eq_true ⟨bI_0n.mp c1, m0, c25⟩))
      · skip
        refine x_iconst (v := 1) C dX7_digits_28 (by decide) ?_
        refine x_goto (tgt := 33) C dX7_digits_29 (by decide) ?_
        first | exact T33 _ (bI_00 (fun q => bI_0.mp c1 (of_decide_eq_true q).1)) | exact T33 _ (bI_00 (fun q => i0.mp c5 (of_decide_eq_true q).2.1)) | exact T33 _ (bI_00 (fun q => c25 (of_decide_eq_true q).2.2)) | exact T33 _ (bI_1 (decide_eq_true ⟨bI_0n.mp c1, m0, c25⟩))
end Digits
end
section
/-! MeterBusModel: a record's value. -/
def f_valN (S : MS) (a e r cc n : Nat) : MS := if a + n ≤ e then (if cc < 8 then (S.si 40 (nI (a + n))).sw 24 r (f_whole S a n) else (f_digS S a n true).sw 24 r (f_dig S a n true)) else f_bl S 4 (nI e)
section Val
variable {w : Wd} {M : MW} {S : MS}
/-- the values of a size that the code tells, from pc 74 -/
theorem val74 (hW : Wm w M) (a e r cc n : Nat) (ha : S.i 40 = nI a) (he : S.i 39 = nI e) (he3 : e ≤ 300) (hae : a ≤ e) (hr : S.i 23 = nI r) (hr1 : r < 100) (hc : cc < 15) (hn8 : n ≤ 8) {z : Fx} (C : Cx z RX7 cX7_value gw) (Y : Mty z M) (E : Ct z w gw yX7_value none 2 (40 * 2) (PM M (fun q Q => q = none ∧ Q = f_valN S a e r cc n))) (hn : z.nL = 8) :
    X z 0 0 (MA M S) 74 [some (.ref M.o), some (.int (nI cc)), some (.int (nI n)), none, none, none, none, none] [] := by
  unfold f_valN at E
  have n0 : ¬ nI n < 0 := nI_pos (by omega)
  have c8 : 8 ≤ nI cc ↔ ¬ cc < 8 := by rw [show (8 : Int32) = nI 8 from rfl, nI_leI (by omega) (by omega)]; omega
  by_cases h1 : a + n ≤ e
  · rw [if_pos h1] at E
    have hh := s_has_t (S := S) hW a e n ha he he3 h1
    by_cases h2 : cc < 8
    · rw [if_pos h2] at E
      have hw := s_whole (S := S) hW a n ha hn8 (by omega)
      refine x_iload_n C dX7_value_74 rfl ?_
      refine x_if_lt (tgt := 116) C dX7_value_75 (by decide) (fun c75 => absurd c75 n0) (fun c75 => ?_)
      refine x_aload_n C dX7_value_78 rfl ?_
      refine x_iload_n C dX7_value_79 rfl ?_
      refine m_callF C Y hW E (hh) rfl md_X7_has wi_X7_has ws_X7_has wm_X7_243 dX7_value_80 rfl (by decide) (by decide) rfl (by simp [Value.category]) ?_
      refine x_if_eq (tgt := 115) C dX7_value_83 (by decide) (fun c83 => absurd c83 (by decide)) (fun c83 => ?_)
      refine x_aload_n C dX7_value_86 rfl ?_
      refine m_getA C Y 24 (by decide) (by decide) wf_X7_56 dX7_value_87 ?_
      refine x_aload_n C dX7_value_90 rfl ?_
      refine m_get C Y 23 (by decide) (by decide) wf_X7_190 dX7_value_91 ?_
      refine x_iload_n C dX7_value_94 rfl ?_
      refine x_bipush (v := 8) C dX7_value_95 (by decide) ?_
      refine x_icmp_ge (tgt := 108) C dX7_value_97 (by decide) (fun c97 => absurd c97 (fun q => c8.mp q h2)) (fun c97 => ?_)
      refine x_aload_n C dX7_value_100 rfl ?_
      refine x_iload_n C dX7_value_101 rfl ?_
      refine m_callF C Y hW E (hw) rfl md_X7_whole wi_X7_whole ws_X7_whole wm_X7_246 dX7_value_102 rfl (by decide) (by decide) rfl (by simp [Value.category]) ?_
      refine x_goto (tgt := 114) C dX7_value_105 (by decide) ?_
      refine m_lstN C Y hW.2.1 24 (r) (by decide) dX7_value_114 hr (by simp only [m_len]; omega) ?_
      refine m_vret C E dX7_value_115 ?_
      exact ⟨rfl, rfl⟩
    · rw [if_neg h2] at E
      have hd := s_digits (S := S) hW a n true ha (by omega) (by omega)
      rw [bI_t (p := true = true) rfl] at hd
      refine x_iload_n C dX7_value_74 rfl ?_
      refine x_if_lt (tgt := 116) C dX7_value_75 (by decide) (fun c75 => absurd c75 n0) (fun c75 => ?_)
      refine x_aload_n C dX7_value_78 rfl ?_
      refine x_iload_n C dX7_value_79 rfl ?_
      refine m_callF C Y hW E (hh) rfl md_X7_has wi_X7_has ws_X7_has wm_X7_243 dX7_value_80 rfl (by decide) (by decide) rfl (by simp [Value.category]) ?_
      refine x_if_eq (tgt := 115) C dX7_value_83 (by decide) (fun c83 => absurd c83 (by decide)) (fun c83 => ?_)
      refine x_aload_n C dX7_value_86 rfl ?_
      refine m_getA C Y 24 (by decide) (by decide) wf_X7_56 dX7_value_87 ?_
      refine x_aload_n C dX7_value_90 rfl ?_
      refine m_get C Y 23 (by decide) (by decide) wf_X7_190 dX7_value_91 ?_
      refine x_iload_n C dX7_value_94 rfl ?_
      refine x_bipush (v := 8) C dX7_value_95 (by decide) ?_
      refine x_icmp_ge (tgt := 108) C dX7_value_97 (by decide) (fun c97 => ?_) (fun c97 => absurd c97 (not_not_intro (c8.mpr h2)))
      refine x_aload_n C dX7_value_108 rfl ?_
      refine x_iload_n C dX7_value_109 rfl ?_
      refine x_iconst (v := 1) C dX7_value_110 (by decide) ?_
      refine m_callF C Y hW E (hd) rfl md_X7_digits wi_X7_digits ws_X7_digits wm_X7_250 dX7_value_111 rfl (by decide) (by decide) rfl (by simp [Value.category]) ?_
      refine m_lstN C Y hW.2.1 24 (r) (by decide) dX7_value_114 hr (by simp only [m_len]; omega) ?_
      refine m_vret C E dX7_value_115 ?_
      exact ⟨rfl, rfl⟩
  · rw [if_neg h1] at E
    have hh := s_has_f (S := S) hW a e n ha he he3 hae (by omega) h1
    refine x_iload_n C dX7_value_74 rfl ?_
    refine x_if_lt (tgt := 116) C dX7_value_75 (by decide) (fun c75 => absurd c75 n0) (fun c75 => ?_)
    refine x_aload_n C dX7_value_78 rfl ?_
    refine x_iload_n C dX7_value_79 rfl ?_
    refine m_callF C Y hW E (hh) rfl md_X7_has wi_X7_has ws_X7_has wm_X7_243 dX7_value_80 rfl (by decide) (by decide) rfl (by simp [Value.category]) ?_
    refine x_if_eq (tgt := 115) C dX7_value_83 (by decide) (fun c83 => ?_) (fun c83 => absurd c83 (not_not_intro rfl))
    refine m_vret C E dX7_value_115 ?_
    exact ⟨rfl, rfl⟩
theorem s_val_0 (hW : Wm w M) (a e r : Nat) (ha : S.i 40 = nI a) (he : S.i 39 = nI e) (he3 : e ≤ 300) (hae : a ≤ e) (hr : S.i 23 = nI r) (hr1 : r < 100) : TF w M yX7_value cX7_value 8 none 2 [.int (nI 0)] S none (f_valN S a e r 0 0) := by
  refine TM.intro hW rfl (Nat.le_of_ble_eq_true rfl) (fun z C Y E hn => ?_)
  refine x_iload_n C dX7_value_0 rfl ?_
  refine x_if_ne (tgt := 8) C dX7_value_1 (by decide) (fun c1 => absurd c1 (not_not_intro (by decide))) (fun c1 => ?_)
  refine x_iconst (v := 0) C dX7_value_4 (by decide) ?_
  refine x_goto (tgt := 73) C dX7_value_5 (by decide) ?_
  refine x_istore_nE (L' := [some _, some _, some _, none, none, none, none, none]) C dX7_value_73 (by rw [hn]; decide) rfl ?_
  exact val74 hW a e r 0 0 ha he he3 hae hr hr1 (by decide) (by decide) C Y E hn
theorem s_val_1 (hW : Wm w M) (a e r : Nat) (ha : S.i 40 = nI a) (he : S.i 39 = nI e) (he3 : e ≤ 300) (hae : a ≤ e) (hr : S.i 23 = nI r) (hr1 : r < 100) : TF w M yX7_value cX7_value 8 none 2 [.int (nI 1)] S none (f_valN S a e r 1 1) := by
  refine TM.intro hW rfl (Nat.le_of_ble_eq_true rfl) (fun z C Y E hn => ?_)
  refine x_iload_n C dX7_value_0 rfl ?_
  refine x_if_ne (tgt := 8) C dX7_value_1 (by decide) (fun c1 => ?_) (fun c1 => absurd c1 (by decide))
  refine x_iload_n C dX7_value_8 rfl ?_
  refine x_iconst (v := 5) C dX7_value_9 (by decide) ?_
  refine x_icmp_ge (tgt := 17) C dX7_value_10 (by decide) (fun c10 => absurd c10 (by decide)) (fun c10 => ?_)
  refine x_iload_n C dX7_value_13 rfl ?_
  refine x_goto (tgt := 73) C dX7_value_14 (by decide) ?_
  refine x_istore_nE (L' := [some _, some _, some _, none, none, none, none, none]) C dX7_value_73 (by rw [hn]; decide) rfl ?_
  exact val74 hW a e r 1 1 ha he he3 hae hr hr1 (by decide) (by decide) C Y E hn
theorem s_val_2 (hW : Wm w M) (a e r : Nat) (ha : S.i 40 = nI a) (he : S.i 39 = nI e) (he3 : e ≤ 300) (hae : a ≤ e) (hr : S.i 23 = nI r) (hr1 : r < 100) : TF w M yX7_value cX7_value 8 none 2 [.int (nI 2)] S none (f_valN S a e r 2 2) := by
  refine TM.intro hW rfl (Nat.le_of_ble_eq_true rfl) (fun z C Y E hn => ?_)
  refine x_iload_n C dX7_value_0 rfl ?_
  refine x_if_ne (tgt := 8) C dX7_value_1 (by decide) (fun c1 => ?_) (fun c1 => absurd c1 (by decide))
  refine x_iload_n C dX7_value_8 rfl ?_
  refine x_iconst (v := 5) C dX7_value_9 (by decide) ?_
  refine x_icmp_ge (tgt := 17) C dX7_value_10 (by decide) (fun c10 => absurd c10 (by decide)) (fun c10 => ?_)
  refine x_iload_n C dX7_value_13 rfl ?_
  refine x_goto (tgt := 73) C dX7_value_14 (by decide) ?_
  refine x_istore_nE (L' := [some _, some _, some _, none, none, none, none, none]) C dX7_value_73 (by rw [hn]; decide) rfl ?_
  exact val74 hW a e r 2 2 ha he he3 hae hr hr1 (by decide) (by decide) C Y E hn
theorem s_val_3 (hW : Wm w M) (a e r : Nat) (ha : S.i 40 = nI a) (he : S.i 39 = nI e) (he3 : e ≤ 300) (hae : a ≤ e) (hr : S.i 23 = nI r) (hr1 : r < 100) : TF w M yX7_value cX7_value 8 none 2 [.int (nI 3)] S none (f_valN S a e r 3 3) := by
  refine TM.intro hW rfl (Nat.le_of_ble_eq_true rfl) (fun z C Y E hn => ?_)
  refine x_iload_n C dX7_value_0 rfl ?_
  refine x_if_ne (tgt := 8) C dX7_value_1 (by decide) (fun c1 => ?_) (fun c1 => absurd c1 (by decide))
  refine x_iload_n C dX7_value_8 rfl ?_
  refine x_iconst (v := 5) C dX7_value_9 (by decide) ?_
  refine x_icmp_ge (tgt := 17) C dX7_value_10 (by decide) (fun c10 => absurd c10 (by decide)) (fun c10 => ?_)
  refine x_iload_n C dX7_value_13 rfl ?_
  refine x_goto (tgt := 73) C dX7_value_14 (by decide) ?_
  refine x_istore_nE (L' := [some _, some _, some _, none, none, none, none, none]) C dX7_value_73 (by rw [hn]; decide) rfl ?_
  exact val74 hW a e r 3 3 ha he he3 hae hr hr1 (by decide) (by decide) C Y E hn
theorem s_val_4 (hW : Wm w M) (a e r : Nat) (ha : S.i 40 = nI a) (he : S.i 39 = nI e) (he3 : e ≤ 300) (hae : a ≤ e) (hr : S.i 23 = nI r) (hr1 : r < 100) : TF w M yX7_value cX7_value 8 none 2 [.int (nI 4)] S none (f_valN S a e r 4 4) := by
  refine TM.intro hW rfl (Nat.le_of_ble_eq_true rfl) (fun z C Y E hn => ?_)
  refine x_iload_n C dX7_value_0 rfl ?_
  refine x_if_ne (tgt := 8) C dX7_value_1 (by decide) (fun c1 => ?_) (fun c1 => absurd c1 (by decide))
  refine x_iload_n C dX7_value_8 rfl ?_
  refine x_iconst (v := 5) C dX7_value_9 (by decide) ?_
  refine x_icmp_ge (tgt := 17) C dX7_value_10 (by decide) (fun c10 => absurd c10 (by decide)) (fun c10 => ?_)
  refine x_iload_n C dX7_value_13 rfl ?_
  refine x_goto (tgt := 73) C dX7_value_14 (by decide) ?_
  refine x_istore_nE (L' := [some _, some _, some _, none, none, none, none, none]) C dX7_value_73 (by rw [hn]; decide) rfl ?_
  exact val74 hW a e r 4 4 ha he he3 hae hr hr1 (by decide) (by decide) C Y E hn
theorem s_val_5 (hW : Wm w M) (a e r : Nat) (ha : S.i 40 = nI a) (he : S.i 39 = nI e) (he3 : e ≤ 300) (hae : a ≤ e) (hr : S.i 23 = nI r) (hr1 : r < 100) : TF w M yX7_value cX7_value 8 none 2 [.int (nI 5)] S none (f_valN S a e r 5 4) := by
  refine TM.intro hW rfl (Nat.le_of_ble_eq_true rfl) (fun z C Y E hn => ?_)
  refine x_iload_n C dX7_value_0 rfl ?_
  refine x_if_ne (tgt := 8) C dX7_value_1 (by decide) (fun c1 => ?_) (fun c1 => absurd c1 (by decide))
  refine x_iload_n C dX7_value_8 rfl ?_
  refine x_iconst (v := 5) C dX7_value_9 (by decide) ?_
  refine x_icmp_ge (tgt := 17) C dX7_value_10 (by decide) (fun c10 => ?_) (fun c10 => absurd c10 (not_not_intro (by decide)))
  refine x_iload_n C dX7_value_17 rfl ?_
  refine x_iconst (v := 5) C dX7_value_18 (by decide) ?_
  refine x_icmp_ne (tgt := 26) C dX7_value_19 (by decide) (fun c19 => absurd c19 (not_not_intro (by decide))) (fun c19 => ?_)
  refine x_iconst (v := 4) C dX7_value_22 (by decide) ?_
  refine x_goto (tgt := 73) C dX7_value_23 (by decide) ?_
  refine x_istore_nE (L' := [some _, some _, some _, none, none, none, none, none]) C dX7_value_73 (by rw [hn]; decide) rfl ?_
  exact val74 hW a e r 5 4 ha he he3 hae hr hr1 (by decide) (by decide) C Y E hn
theorem s_val_6 (hW : Wm w M) (a e r : Nat) (ha : S.i 40 = nI a) (he : S.i 39 = nI e) (he3 : e ≤ 300) (hae : a ≤ e) (hr : S.i 23 = nI r) (hr1 : r < 100) : TF w M yX7_value cX7_value 8 none 2 [.int (nI 6)] S none (f_valN S a e r 6 6) := by
  refine TM.intro hW rfl (Nat.le_of_ble_eq_true rfl) (fun z C Y E hn => ?_)
  refine x_iload_n C dX7_value_0 rfl ?_
  refine x_if_ne (tgt := 8) C dX7_value_1 (by decide) (fun c1 => ?_) (fun c1 => absurd c1 (by decide))
  refine x_iload_n C dX7_value_8 rfl ?_
  refine x_iconst (v := 5) C dX7_value_9 (by decide) ?_
  refine x_icmp_ge (tgt := 17) C dX7_value_10 (by decide) (fun c10 => ?_) (fun c10 => absurd c10 (not_not_intro (by decide)))
  refine x_iload_n C dX7_value_17 rfl ?_
  refine x_iconst (v := 5) C dX7_value_18 (by decide) ?_
  refine x_icmp_ne (tgt := 26) C dX7_value_19 (by decide) (fun c19 => ?_) (fun c19 => absurd c19 (by decide))
  refine x_iload_n C dX7_value_26 rfl ?_
  refine x_bipush (v := 6) C dX7_value_27 (by decide) ?_
  refine x_icmp_ne (tgt := 37) C dX7_value_29 (by decide) (fun c29 => absurd c29 (not_not_intro (by decide))) (fun c29 => ?_)
  refine x_bipush (v := 6) C dX7_value_32 (by decide) ?_
  refine x_goto (tgt := 73) C dX7_value_34 (by decide) ?_
  refine x_istore_nE (L' := [some _, some _, some _, none, none, none, none, none]) C dX7_value_73 (by rw [hn]; decide) rfl ?_
  exact val74 hW a e r 6 6 ha he he3 hae hr hr1 (by decide) (by decide) C Y E hn
theorem s_val_7 (hW : Wm w M) (a e r : Nat) (ha : S.i 40 = nI a) (he : S.i 39 = nI e) (he3 : e ≤ 300) (hae : a ≤ e) (hr : S.i 23 = nI r) (hr1 : r < 100) : TF w M yX7_value cX7_value 8 none 2 [.int (nI 7)] S none (f_valN S a e r 7 8) := by
  refine TM.intro hW rfl (Nat.le_of_ble_eq_true rfl) (fun z C Y E hn => ?_)
  refine x_iload_n C dX7_value_0 rfl ?_
  refine x_if_ne (tgt := 8) C dX7_value_1 (by decide) (fun c1 => ?_) (fun c1 => absurd c1 (by decide))
  refine x_iload_n C dX7_value_8 rfl ?_
  refine x_iconst (v := 5) C dX7_value_9 (by decide) ?_
  refine x_icmp_ge (tgt := 17) C dX7_value_10 (by decide) (fun c10 => ?_) (fun c10 => absurd c10 (not_not_intro (by decide)))
  refine x_iload_n C dX7_value_17 rfl ?_
  refine x_iconst (v := 5) C dX7_value_18 (by decide) ?_
  refine x_icmp_ne (tgt := 26) C dX7_value_19 (by decide) (fun c19 => ?_) (fun c19 => absurd c19 (by decide))
  refine x_iload_n C dX7_value_26 rfl ?_
  refine x_bipush (v := 6) C dX7_value_27 (by decide) ?_
  refine x_icmp_ne (tgt := 37) C dX7_value_29 (by decide) (fun c29 => ?_) (fun c29 => absurd c29 (by decide))
  refine x_iload_n C dX7_value_37 rfl ?_
  refine x_bipush (v := 7) C dX7_value_38 (by decide) ?_
  refine x_icmp_ne (tgt := 48) C dX7_value_40 (by decide) (fun c40 => absurd c40 (not_not_intro (by decide))) (fun c40 => ?_)
  refine x_bipush (v := 8) C dX7_value_43 (by decide) ?_
  refine x_goto (tgt := 73) C dX7_value_45 (by decide) ?_
  refine x_istore_nE (L' := [some _, some _, some _, none, none, none, none, none]) C dX7_value_73 (by rw [hn]; decide) rfl ?_
  exact val74 hW a e r 7 8 ha he he3 hae hr hr1 (by decide) (by decide) C Y E hn
theorem s_val_9 (hW : Wm w M) (a e r : Nat) (ha : S.i 40 = nI a) (he : S.i 39 = nI e) (he3 : e ≤ 300) (hae : a ≤ e) (hr : S.i 23 = nI r) (hr1 : r < 100) : TF w M yX7_value cX7_value 8 none 2 [.int (nI 9)] S none (f_valN S a e r 9 1) := by
  refine TM.intro hW rfl (Nat.le_of_ble_eq_true rfl) (fun z C Y E hn => ?_)
  refine x_iload_n C dX7_value_0 rfl ?_
  refine x_if_ne (tgt := 8) C dX7_value_1 (by decide) (fun c1 => ?_) (fun c1 => absurd c1 (by decide))
  refine x_iload_n C dX7_value_8 rfl ?_
  refine x_iconst (v := 5) C dX7_value_9 (by decide) ?_
  refine x_icmp_ge (tgt := 17) C dX7_value_10 (by decide) (fun c10 => ?_) (fun c10 => absurd c10 (not_not_intro (by decide)))
  refine x_iload_n C dX7_value_17 rfl ?_
  refine x_iconst (v := 5) C dX7_value_18 (by decide) ?_
  refine x_icmp_ne (tgt := 26) C dX7_value_19 (by decide) (fun c19 => ?_) (fun c19 => absurd c19 (by decide))
  refine x_iload_n C dX7_value_26 rfl ?_
  refine x_bipush (v := 6) C dX7_value_27 (by decide) ?_
  refine x_icmp_ne (tgt := 37) C dX7_value_29 (by decide) (fun c29 => ?_) (fun c29 => absurd c29 (by decide))
  refine x_iload_n C dX7_value_37 rfl ?_
  refine x_bipush (v := 7) C dX7_value_38 (by decide) ?_
  refine x_icmp_ne (tgt := 48) C dX7_value_40 (by decide) (fun c40 => ?_) (fun c40 => absurd c40 (by decide))
  refine x_iload_n C dX7_value_48 rfl ?_
  refine x_bipush (v := 13) C dX7_value_49 (by decide) ?_
  refine x_icmp_ge (tgt := 61) C dX7_value_51 (by decide) (fun c51 => absurd c51 (by decide)) (fun c51 => ?_)
  refine x_iload_n C dX7_value_54 rfl ?_
  refine x_bipush (v := 8) C dX7_value_55 (by decide) ?_
  refine x_isub C dX7_value_57 ?_
  refine x_goto (tgt := 73) C dX7_value_58 (by decide) ?_
  rw [show nI 9 - 8 = nI 1 from rfl]
  refine x_istore_nE (L' := [some _, some _, some _, none, none, none, none, none]) C dX7_value_73 (by rw [hn]; decide) rfl ?_
  exact val74 hW a e r 9 1 ha he he3 hae hr hr1 (by decide) (by decide) C Y E hn
theorem s_val_10 (hW : Wm w M) (a e r : Nat) (ha : S.i 40 = nI a) (he : S.i 39 = nI e) (he3 : e ≤ 300) (hae : a ≤ e) (hr : S.i 23 = nI r) (hr1 : r < 100) : TF w M yX7_value cX7_value 8 none 2 [.int (nI 10)] S none (f_valN S a e r 10 2) := by
  refine TM.intro hW rfl (Nat.le_of_ble_eq_true rfl) (fun z C Y E hn => ?_)
  refine x_iload_n C dX7_value_0 rfl ?_
  refine x_if_ne (tgt := 8) C dX7_value_1 (by decide) (fun c1 => ?_) (fun c1 => absurd c1 (by decide))
  refine x_iload_n C dX7_value_8 rfl ?_
  refine x_iconst (v := 5) C dX7_value_9 (by decide) ?_
  refine x_icmp_ge (tgt := 17) C dX7_value_10 (by decide) (fun c10 => ?_) (fun c10 => absurd c10 (not_not_intro (by decide)))
  refine x_iload_n C dX7_value_17 rfl ?_
  refine x_iconst (v := 5) C dX7_value_18 (by decide) ?_
  refine x_icmp_ne (tgt := 26) C dX7_value_19 (by decide) (fun c19 => ?_) (fun c19 => absurd c19 (by decide))
  refine x_iload_n C dX7_value_26 rfl ?_
  refine x_bipush (v := 6) C dX7_value_27 (by decide) ?_
  refine x_icmp_ne (tgt := 37) C dX7_value_29 (by decide) (fun c29 => ?_) (fun c29 => absurd c29 (by decide))
  refine x_iload_n C dX7_value_37 rfl ?_
  refine x_bipush (v := 7) C dX7_value_38 (by decide) ?_
  refine x_icmp_ne (tgt := 48) C dX7_value_40 (by decide) (fun c40 => ?_) (fun c40 => absurd c40 (by decide))
  refine x_iload_n C dX7_value_48 rfl ?_
  refine x_bipush (v := 13) C dX7_value_49 (by decide) ?_
  refine x_icmp_ge (tgt := 61) C dX7_value_51 (by decide) (fun c51 => absurd c51 (by decide)) (fun c51 => ?_)
  refine x_iload_n C dX7_value_54 rfl ?_
  refine x_bipush (v := 8) C dX7_value_55 (by decide) ?_
  refine x_isub C dX7_value_57 ?_
  refine x_goto (tgt := 73) C dX7_value_58 (by decide) ?_
  rw [show nI 10 - 8 = nI 2 from rfl]
  refine x_istore_nE (L' := [some _, some _, some _, none, none, none, none, none]) C dX7_value_73 (by rw [hn]; decide) rfl ?_
  exact val74 hW a e r 10 2 ha he he3 hae hr hr1 (by decide) (by decide) C Y E hn
theorem s_val_11 (hW : Wm w M) (a e r : Nat) (ha : S.i 40 = nI a) (he : S.i 39 = nI e) (he3 : e ≤ 300) (hae : a ≤ e) (hr : S.i 23 = nI r) (hr1 : r < 100) : TF w M yX7_value cX7_value 8 none 2 [.int (nI 11)] S none (f_valN S a e r 11 3) := by
  refine TM.intro hW rfl (Nat.le_of_ble_eq_true rfl) (fun z C Y E hn => ?_)
  refine x_iload_n C dX7_value_0 rfl ?_
  refine x_if_ne (tgt := 8) C dX7_value_1 (by decide) (fun c1 => ?_) (fun c1 => absurd c1 (by decide))
  refine x_iload_n C dX7_value_8 rfl ?_
  refine x_iconst (v := 5) C dX7_value_9 (by decide) ?_
  refine x_icmp_ge (tgt := 17) C dX7_value_10 (by decide) (fun c10 => ?_) (fun c10 => absurd c10 (not_not_intro (by decide)))
  refine x_iload_n C dX7_value_17 rfl ?_
  refine x_iconst (v := 5) C dX7_value_18 (by decide) ?_
  refine x_icmp_ne (tgt := 26) C dX7_value_19 (by decide) (fun c19 => ?_) (fun c19 => absurd c19 (by decide))
  refine x_iload_n C dX7_value_26 rfl ?_
  refine x_bipush (v := 6) C dX7_value_27 (by decide) ?_
  refine x_icmp_ne (tgt := 37) C dX7_value_29 (by decide) (fun c29 => ?_) (fun c29 => absurd c29 (by decide))
  refine x_iload_n C dX7_value_37 rfl ?_
  refine x_bipush (v := 7) C dX7_value_38 (by decide) ?_
  refine x_icmp_ne (tgt := 48) C dX7_value_40 (by decide) (fun c40 => ?_) (fun c40 => absurd c40 (by decide))
  refine x_iload_n C dX7_value_48 rfl ?_
  refine x_bipush (v := 13) C dX7_value_49 (by decide) ?_
  refine x_icmp_ge (tgt := 61) C dX7_value_51 (by decide) (fun c51 => absurd c51 (by decide)) (fun c51 => ?_)
  refine x_iload_n C dX7_value_54 rfl ?_
  refine x_bipush (v := 8) C dX7_value_55 (by decide) ?_
  refine x_isub C dX7_value_57 ?_
  refine x_goto (tgt := 73) C dX7_value_58 (by decide) ?_
  rw [show nI 11 - 8 = nI 3 from rfl]
  refine x_istore_nE (L' := [some _, some _, some _, none, none, none, none, none]) C dX7_value_73 (by rw [hn]; decide) rfl ?_
  exact val74 hW a e r 11 3 ha he he3 hae hr hr1 (by decide) (by decide) C Y E hn
theorem s_val_12 (hW : Wm w M) (a e r : Nat) (ha : S.i 40 = nI a) (he : S.i 39 = nI e) (he3 : e ≤ 300) (hae : a ≤ e) (hr : S.i 23 = nI r) (hr1 : r < 100) : TF w M yX7_value cX7_value 8 none 2 [.int (nI 12)] S none (f_valN S a e r 12 4) := by
  refine TM.intro hW rfl (Nat.le_of_ble_eq_true rfl) (fun z C Y E hn => ?_)
  refine x_iload_n C dX7_value_0 rfl ?_
  refine x_if_ne (tgt := 8) C dX7_value_1 (by decide) (fun c1 => ?_) (fun c1 => absurd c1 (by decide))
  refine x_iload_n C dX7_value_8 rfl ?_
  refine x_iconst (v := 5) C dX7_value_9 (by decide) ?_
  refine x_icmp_ge (tgt := 17) C dX7_value_10 (by decide) (fun c10 => ?_) (fun c10 => absurd c10 (not_not_intro (by decide)))
  refine x_iload_n C dX7_value_17 rfl ?_
  refine x_iconst (v := 5) C dX7_value_18 (by decide) ?_
  refine x_icmp_ne (tgt := 26) C dX7_value_19 (by decide) (fun c19 => ?_) (fun c19 => absurd c19 (by decide))
  refine x_iload_n C dX7_value_26 rfl ?_
  refine x_bipush (v := 6) C dX7_value_27 (by decide) ?_
  refine x_icmp_ne (tgt := 37) C dX7_value_29 (by decide) (fun c29 => ?_) (fun c29 => absurd c29 (by decide))
  refine x_iload_n C dX7_value_37 rfl ?_
  refine x_bipush (v := 7) C dX7_value_38 (by decide) ?_
  refine x_icmp_ne (tgt := 48) C dX7_value_40 (by decide) (fun c40 => ?_) (fun c40 => absurd c40 (by decide))
  refine x_iload_n C dX7_value_48 rfl ?_
  refine x_bipush (v := 13) C dX7_value_49 (by decide) ?_
  refine x_icmp_ge (tgt := 61) C dX7_value_51 (by decide) (fun c51 => absurd c51 (by decide)) (fun c51 => ?_)
  refine x_iload_n C dX7_value_54 rfl ?_
  refine x_bipush (v := 8) C dX7_value_55 (by decide) ?_
  refine x_isub C dX7_value_57 ?_
  refine x_goto (tgt := 73) C dX7_value_58 (by decide) ?_
  rw [show nI 12 - 8 = nI 4 from rfl]
  refine x_istore_nE (L' := [some _, some _, some _, none, none, none, none, none]) C dX7_value_73 (by rw [hn]; decide) rfl ?_
  exact val74 hW a e r 12 4 ha he he3 hae hr hr1 (by decide) (by decide) C Y E hn
theorem s_val_14 (hW : Wm w M) (a e r : Nat) (ha : S.i 40 = nI a) (he : S.i 39 = nI e) (he3 : e ≤ 300) (hae : a ≤ e) (hr : S.i 23 = nI r) (hr1 : r < 100) : TF w M yX7_value cX7_value 8 none 2 [.int (nI 14)] S none (f_valN S a e r 14 6) := by
  refine TM.intro hW rfl (Nat.le_of_ble_eq_true rfl) (fun z C Y E hn => ?_)
  refine x_iload_n C dX7_value_0 rfl ?_
  refine x_if_ne (tgt := 8) C dX7_value_1 (by decide) (fun c1 => ?_) (fun c1 => absurd c1 (by decide))
  refine x_iload_n C dX7_value_8 rfl ?_
  refine x_iconst (v := 5) C dX7_value_9 (by decide) ?_
  refine x_icmp_ge (tgt := 17) C dX7_value_10 (by decide) (fun c10 => ?_) (fun c10 => absurd c10 (not_not_intro (by decide)))
  refine x_iload_n C dX7_value_17 rfl ?_
  refine x_iconst (v := 5) C dX7_value_18 (by decide) ?_
  refine x_icmp_ne (tgt := 26) C dX7_value_19 (by decide) (fun c19 => ?_) (fun c19 => absurd c19 (by decide))
  refine x_iload_n C dX7_value_26 rfl ?_
  refine x_bipush (v := 6) C dX7_value_27 (by decide) ?_
  refine x_icmp_ne (tgt := 37) C dX7_value_29 (by decide) (fun c29 => ?_) (fun c29 => absurd c29 (by decide))
  refine x_iload_n C dX7_value_37 rfl ?_
  refine x_bipush (v := 7) C dX7_value_38 (by decide) ?_
  refine x_icmp_ne (tgt := 48) C dX7_value_40 (by decide) (fun c40 => ?_) (fun c40 => absurd c40 (by decide))
  refine x_iload_n C dX7_value_48 rfl ?_
  refine x_bipush (v := 13) C dX7_value_49 (by decide) ?_
  refine x_icmp_ge (tgt := 61) C dX7_value_51 (by decide) (fun c51 => ?_) (fun c51 => absurd c51 (not_not_intro (by decide)))
  refine x_iload_n C dX7_value_61 rfl ?_
  refine x_bipush (v := 14) C dX7_value_62 (by decide) ?_
  refine x_icmp_ne (tgt := 72) C dX7_value_64 (by decide) (fun c64 => absurd c64 (not_not_intro (by decide))) (fun c64 => ?_)
  refine x_bipush (v := 6) C dX7_value_67 (by decide) ?_
  refine x_goto (tgt := 73) C dX7_value_69 (by decide) ?_
  refine x_istore_nE (L' := [some _, some _, some _, none, none, none, none, none]) C dX7_value_73 (by rw [hn]; decide) rfl ?_
  exact val74 hW a e r 14 6 ha he he3 hae hr hr1 (by decide) (by decide) C Y E hn
end Val
end
section
/-! MeterBusModel: values whose size stands in a byte of their own. -/
abbrev f_vok (V : Nat) : Prop := V < 202 ∨ (208 ≤ V ∧ V ≤ 217) ∨ (224 ≤ V ∧ V ≤ 232)
def f_vn (V : Nat) : Nat := if V < 192 then V else if V < 202 then V - 192 else if V < 218 then V - 208 else V - 224
def f_v3 (S1 : MS) (a r tx V : Nat) : MS :=
  if V < 192 then f_text (S1.sw 24 r (nI V).toInt64) r tx (a + 1) V
  else if V < 224 then (f_digS S1 (a + 1) (f_vn V) false).sw 24 r (if V < 208 then f_dig S1 (a + 1) (f_vn V) false else -(f_dig S1 (a + 1) (f_vn V) false))
  else (S1.si 40 (nI (a + 1 + f_vn V))).sw 24 r (f_whole S1 (a + 1) (f_vn V))
def f_valD (S : MS) (a e r tx V : Nat) : MS :=
  if a < e then (if f_vok V then (if a + 1 + f_vn V ≤ e then f_v3 (S.si 40 (nI (a + 1))) a r tx V else f_bl (S.si 40 (nI (a + 1))) 4 (nI e)) else f_bl (S.si 40 (nI (a + 1))) 8 (nI a))
  else f_bl S 4 (nI e)
section ValD
variable {w : Wd} {M : MW} {S : MS}
/-- the value itself, from pc 249 -/
theorem val249 (hW : Wm w M) (a r tx V : Nat) (hV : V < 256) (hok : f_vok V) (ha : S.i 40 = nI (a + 1)) (ham : a + 1 + f_vn V ≤ 300) (hr : S.i 23 = nI r) (hr1 : r < 100) (ht : S.i 34 = nI tx) (ht1 : tx + f_vn V ≤ 26000) {z : Fx} (l4 l5 : Option Value) (C : Cx z RX7 cX7_value gw) (Y : Mty z M) (E : Ct z w gw yX7_value none 2 (40 * 2) (PM M (fun q Q => q = none ∧ Q = f_v3 S a r tx V))) (hn : z.nL = 8) :
    X z 0 0 (MA M S) 249 [some (.ref M.o), some (.int (nI 13)), some (.int (nI (f_vn V))), some (.int (nI V)), l4, l5, none, none] [] := by
  have k192 : 192 ≤ nI V ↔ ¬ V < 192 := by rw [show (192 : Int32) = nI 192 from rfl, nI_leI (by omega) (by omega)]; omega
  have k224 : 224 ≤ nI V ↔ ¬ V < 224 := by rw [show (224 : Int32) = nI 224 from rfl, nI_leI (by omega) (by omega)]; omega
  have k208 : 208 ≤ nI V ↔ ¬ V < 208 := by rw [show (208 : Int32) = nI 208 from rfl, nI_leI (by omega) (by omega)]; omega
  unfold f_v3 at E
  by_cases h1 : V < 192
  · rw [if_pos h1] at E
    have ev : f_vn V = V := if_pos h1
    rw [ev] at ham ht1 ⊢
    have hx := s_textTo (S := S.sw 24 r (nI V).toInt64) hW r tx (a + 1) V hr hr1 ht ht1 ha ham
    refine x_iload_n C dX7_value_249 rfl ?_
    refine x_sipush (v := 192) C dX7_value_250 (by decide) ?_
    refine x_icmp_ge (tgt := 275) C dX7_value_253 (by decide) (fun c253 => absurd c253 (fun q => k192.mp q h1)) (fun c253 => ?_)
    refine x_aload_n C dX7_value_256 rfl ?_
    refine m_getA C Y 24 (by decide) (by decide) wf_X7_56 dX7_value_257 ?_
    refine x_aload_n C dX7_value_260 rfl ?_
    refine m_get C Y 23 (by decide) (by decide) wf_X7_190 dX7_value_261 ?_
    refine x_iload_n C dX7_value_264 rfl ?_
    refine x_i2l C dX7_value_265 ?_
    refine m_lstN C Y hW.2.1 24 (r) (by decide) dX7_value_266 hr (by simp only [m_len]; omega) ?_
    refine x_aload_n C dX7_value_267 rfl ?_
    refine x_iload_n C dX7_value_268 rfl ?_
    refine m_callF C Y hW E (hx) rfl md_X7_textTo wi_X7_textTo ws_X7_textTo wm_X7_231 dX7_value_269 rfl (by decide) (by decide) rfl (by simp [Value.category]) ?_
    refine x_goto (tgt := 331) C dX7_value_272 (by decide) ?_
    refine m_vret C E dX7_value_331 ?_
    exact ⟨rfl, rfl⟩
  · rw [if_neg h1] at E
    by_cases h2 : V < 224
    · rw [if_pos h2] at E
      have hvn : f_vn V ≤ 10 := by unfold f_vn; rw [if_neg h1]; split <;> (try split) <;> omega
      have hd := s_digits (S := S) hW (a + 1) (f_vn V) false ha hvn ham
      rw [bI_f (p := false = true) (by decide)] at hd
      have h23 : (f_digS S (a + 1) (f_vn V) false).i 23 = nI r := by
        unfold f_digS
        rw [MS.si_i, if_neg (by decide), f_dg_i _ _ _ _ _ (by decide) (by decide)]
        exact hr
      refine x_iload_n C dX7_value_249 rfl ?_
      refine x_sipush (v := 192) C dX7_value_250 (by decide) ?_
      refine x_icmp_ge (tgt := 275) C dX7_value_253 (by decide) (fun c253 => ?_) (fun c253 => absurd c253 (not_not_intro (k192.mpr h1)))
      refine x_iload_n C dX7_value_275 rfl ?_
      refine x_sipush (v := 224) C dX7_value_276 (by decide) ?_
      refine x_icmp_ge (tgt := 317) C dX7_value_279 (by decide) (fun c279 => absurd c279 (fun q => k224.mp q h2)) (fun c279 => ?_)
      refine x_aload_n C dX7_value_282 rfl ?_
      refine x_iload_n C dX7_value_283 rfl ?_
      refine x_iconst (v := 0) C dX7_value_284 (by decide) ?_
      refine m_callF C Y hW E (hd) rfl md_X7_digits wi_X7_digits ws_X7_digits wm_X7_250 dX7_value_285 rfl (by decide) (by decide) rfl (by simp [Value.category]) ?_
      refine x_lstoreE (L' := [some _, some _, some _, some _, _, _, some _, none]) C dX7_value_288 (by rw [hn]; decide) rfl ?_
      refine x_aload_n C dX7_value_290 rfl ?_
      refine m_getA C Y 24 (by decide) (by decide) wf_X7_56 dX7_value_291 ?_
      refine x_aload_n C dX7_value_294 rfl ?_
      refine m_get C Y 23 (by decide) (by decide) wf_X7_190 dX7_value_295 ?_
      refine x_iload_n C dX7_value_298 rfl ?_
      refine x_sipush (v := 208) C dX7_value_299 (by decide) ?_
      refine x_icmp_ge (tgt := 310) C dX7_value_302 (by decide) (fun c302 => ?_) (fun c302 => ?_)
      · skip
        refine x_lload C dX7_value_310 rfl ?_
        refine x_lneg C dX7_value_312 ?_
        refine m_lstN C Y hW.2.1 24 (r) (by decide) dX7_value_313 h23 (by simp only [m_len]; omega) ?_
        refine x_goto (tgt := 331) C dX7_value_314 (by decide) ?_
        refine m_vret C E dX7_value_331 ?_
        first | exact ⟨rfl, congrArg (fun t => (f_digS S (a + 1) (f_vn V) false).sw 24 r t) (if_neg (k208.mp c302)).symm⟩ | exact ⟨rfl, congrArg (fun t => (f_digS S (a + 1) (f_vn V) false).sw 24 r t) (if_pos (Classical.not_not.mp (fun q => c302 (k208.mpr q)))).symm⟩
      · skip
        refine x_lload C dX7_value_305 rfl ?_
        refine x_goto (tgt := 313) C dX7_value_307 (by decide) ?_
        refine m_lstN C Y hW.2.1 24 (r) (by decide) dX7_value_313 h23 (by simp only [m_len]; omega) ?_
        refine x_goto (tgt := 331) C dX7_value_314 (by decide) ?_
        refine m_vret C E dX7_value_331 ?_
        first | exact ⟨rfl, congrArg (fun t => (f_digS S (a + 1) (f_vn V) false).sw 24 r t) (if_neg (k208.mp c302)).symm⟩ | exact ⟨rfl, congrArg (fun t => (f_digS S (a + 1) (f_vn V) false).sw 24 r t) (if_pos (Classical.not_not.mp (fun q => c302 (k208.mpr q)))).symm⟩
    · rw [if_neg h2] at E
      have hvn : f_vn V ≤ 8 := by
        unfold f_vn
        rcases hok with q | q | q
        · omega
        · omega
        · rw [if_neg h1, if_neg (by omega), if_neg (by omega)]; omega
      have hw := s_whole (S := S) hW (a + 1) (f_vn V) ha hvn ham
      refine x_iload_n C dX7_value_249 rfl ?_
      refine x_sipush (v := 192) C dX7_value_250 (by decide) ?_
      refine x_icmp_ge (tgt := 275) C dX7_value_253 (by decide) (fun c253 => ?_) (fun c253 => absurd c253 (not_not_intro (k192.mpr h1)))
      refine x_iload_n C dX7_value_275 rfl ?_
      refine x_sipush (v := 224) C dX7_value_276 (by decide) ?_
      refine x_icmp_ge (tgt := 317) C dX7_value_279 (by decide) (fun c279 => ?_) (fun c279 => absurd c279 (not_not_intro (k224.mpr h2)))
      refine x_aload_n C dX7_value_317 rfl ?_
      refine m_getA C Y 24 (by decide) (by decide) wf_X7_56 dX7_value_318 ?_
      refine x_aload_n C dX7_value_321 rfl ?_
      refine m_get C Y 23 (by decide) (by decide) wf_X7_190 dX7_value_322 ?_
      refine x_aload_n C dX7_value_325 rfl ?_
      refine x_iload_n C dX7_value_326 rfl ?_
      refine m_callF C Y hW E (hw) rfl md_X7_whole wi_X7_whole ws_X7_whole wm_X7_246 dX7_value_327 rfl (by decide) (by decide) rfl (by simp [Value.category]) ?_
      refine m_lstN C Y hW.2.1 24 (r) (by decide) dX7_value_330 hr (by simp only [m_len]; omega) ?_
      refine m_vret C E dX7_value_331 ?_
      exact ⟨rfl, rfl⟩
/-- behind the byte, from pc 129 -/
theorem val129 (hW : Wm w M) (a e r tx V : Nat) (hV : V < 256) (ha : S.i 40 = nI (a + 1)) (he : S.i 39 = nI e) (he3 : e ≤ 300) (hae : a + 1 ≤ e) (hr : S.i 23 = nI r) (hr1 : r < 100) (ht : S.i 34 = nI tx) (ht1 : tx + f_vn V ≤ 26000) {z : Fx} (C : Cx z RX7 cX7_value gw) (Y : Mty z M) (hn : z.nL = 8)
    (E : Ct z w gw yX7_value none 2 (40 * 2) (PM M (fun q Q => q = none ∧ Q = if f_vok V then (if a + 1 + f_vn V ≤ e then f_v3 S a r tx V else f_bl S 4 (nI e)) else f_bl S 8 (nI a)))) :
    X z 0 0 (MA M S) 129 [some (.ref M.o), some (.int (nI 13)), some (.int (-1)), some (.int (nI V)), none, none, none, none] [] := by
  have k202 : nI V < 202 ↔ V < 202 := by rw [show (202 : Int32) = nI 202 from rfl, nI_ltI (by omega) (by omega)]
  have kd : (208 ≤ nI V ∧ nI V ≤ 217) ↔ (208 ≤ V ∧ V ≤ 217) := by rw [show (208 : Int32) = nI 208 from rfl, show (217 : Int32) = nI 217 from rfl, nI_leI (by omega) (by omega), nI_leI (by omega) (by omega)]
  have kz : (224 ≤ nI V ∧ nI V ≤ 232) ↔ (224 ≤ V ∧ V ≤ 232) := by rw [show (224 : Int32) = nI 224 from rfl, show (232 : Int32) = nI 232 from rfl, nI_leI (by omega) (by omega), nI_leI (by omega) (by omega)]
  have k192 : 192 ≤ nI V ↔ ¬ V < 192 := by rw [show (192 : Int32) = nI 192 from rfl, nI_leI (by omega) (by omega)]; omega
  have g202 : 202 ≤ nI V ↔ ¬ V < 202 := by rw [show (202 : Int32) = nI 202 from rfl, nI_leI (by omega) (by omega)]; omega
  have g218 : 218 ≤ nI V ↔ ¬ V < 218 := by rw [show (218 : Int32) = nI 218 from rfl, nI_leI (by omega) (by omega)]; omega
  have T177 : ∀ x : Int32, x = bI (f_vok V) → X z 0 0 (MA M S) 177 [some (.ref M.o), some (.int (nI 13)), some (.int (-1)), some (.int (nI V)), some (.int (nI a)), some (.int x), none, none] [] := by
    intro x ex
    by_cases h1 : f_vok V
    · rw [bI_t h1] at ex
      subst ex
      rw [if_pos h1] at E
      have T239 : ∀ y : Int32, y = nI (f_vn V) → X z 0 0 (MA M S) 239 [some (.ref M.o), some (.int (nI 13)), some (.int (-1)), some (.int (nI V)), some (.int (nI a)), some (.int 1), none, none] [.int y] := by
        intro y ey
        subst ey
        by_cases h2 : a + 1 + f_vn V ≤ e
        · rw [if_pos h2] at E
          have hh := s_has_t (S := S) hW (a + 1) e (f_vn V) ha he he3 h2
          have T := val249 hW a r tx V hV h1 ha (by omega) hr hr1 ht ht1 (some (.int (nI a))) (some (.int 1)) C Y E hn
          refine x_istore_nE (L' := [some _, some _, some _, some _, some _, some _, none, none]) C dX7_value_239 (by rw [hn]; decide) rfl ?_
          refine x_aload_n C dX7_value_240 rfl ?_
          refine x_iload_n C dX7_value_241 rfl ?_
          refine m_callF C Y hW E (hh) rfl md_X7_has wi_X7_has ws_X7_has wm_X7_243 dX7_value_242 rfl (by decide) (by decide) rfl (by simp [Value.category]) ?_
          refine x_if_ne (tgt := 249) C dX7_value_245 (by decide) (fun c245 => ?_) (fun c245 => absurd c245 (by decide))
          exact T
        · rw [if_neg h2] at E
          have hh := s_has_f (S := S) hW (a + 1) e (f_vn V) ha he he3 hae (by unfold f_vn; split <;> (try split) <;> (try split) <;> omega) h2
          refine x_istore_nE (L' := [some _, some _, some _, some _, some _, some _, none, none]) C dX7_value_239 (by rw [hn]; decide) rfl ?_
          refine x_aload_n C dX7_value_240 rfl ?_
          refine x_iload_n C dX7_value_241 rfl ?_
          refine m_callF C Y hW E (hh) rfl md_X7_has wi_X7_has ws_X7_has wm_X7_243 dX7_value_242 rfl (by decide) (by decide) rfl (by simp [Value.category]) ?_
          refine x_if_ne (tgt := 249) C dX7_value_245 (by decide) (fun c245 => absurd c245 (not_not_intro rfl)) (fun c245 => ?_)
          refine m_vret C E dX7_value_248 ?_
          exact ⟨rfl, rfl⟩
      have e1 : V < 192 → nI V = nI (f_vn V) := fun q => by unfold f_vn; rw [if_pos q]
      have e2 : ¬ V < 192 → V < 202 → nI V - 192 = nI (f_vn V) := fun q q2 => by unfold f_vn; rw [if_neg q, if_pos q2, show (192 : Int32) = nI 192 from rfl, pk_sub (by omega)]
      have e3 : ¬ V < 192 → ¬ V < 202 → V < 218 → nI V - 208 = nI (f_vn V) := fun q q2 q3 => by
        unfold f_vn
        rw [if_neg q, if_neg q2, if_pos q3, show (208 : Int32) = nI 208 from rfl, pk_sub (by rcases h1 with r | r | r <;> omega)]
      have e4 : ¬ V < 192 → ¬ V < 202 → ¬ V < 218 → nI V - 224 = nI (f_vn V) := fun q q2 q3 => by
        unfold f_vn
        rw [if_neg q, if_neg q2, if_neg q3, show (224 : Int32) = nI 224 from rfl, pk_sub (by rcases h1 with r | r | r <;> omega)]
      refine x_iload C dX7_value_177 rfl ?_
      refine x_if_ne (tgt := 193) C dX7_value_179 (by decide) (fun c179 => ?_) (fun c179 => absurd c179 (by decide))
      refine x_iload_n C dX7_value_193 rfl ?_
      refine x_sipush (v := 192) C dX7_value_194 (by decide) ?_
      refine x_icmp_ge (tgt := 204) C dX7_value_197 (by decide) (fun c197 => ?_) (fun c197 => ?_)
      · skip
        refine x_iload_n C dX7_value_204 rfl ?_
        refine x_sipush (v := 202) C dX7_value_205 (by decide) ?_
        refine x_icmp_ge (tgt := 219) C dX7_value_208 (by decide) (fun c208 => ?_) (fun c208 => ?_)
        · skip
          refine x_iload_n C dX7_value_219 rfl ?_
          refine x_sipush (v := 218) C dX7_value_220 (by decide) ?_
          refine x_icmp_ge (tgt := 234) C dX7_value_223 (by decide) (fun c223 => ?_) (fun c223 => ?_)
          · skip
            refine x_iload_n C dX7_value_234 rfl ?_
            refine x_sipush (v := 224) C dX7_value_235 (by decide) ?_
            refine x_isub C dX7_value_238 ?_
            first | exact T239 _ (e1 (Classical.not_not.mp (fun q => c197 (k192.mpr q)))) | exact T239 _ (e2 (k192.mp c197) (Classical.not_not.mp (fun q => c208 (g202.mpr q)))) | exact T239 _ (e3 (k192.mp c197) (g202.mp c208) (Classical.not_not.mp (fun q => c223 (g218.mpr q)))) | exact T239 _ (e4 (k192.mp c197) (g202.mp c208) (g218.mp c223))
          · skip
            refine x_iload_n C dX7_value_226 rfl ?_
            refine x_sipush (v := 208) C dX7_value_227 (by decide) ?_
            refine x_isub C dX7_value_230 ?_
            refine x_goto (tgt := 239) C dX7_value_231 (by decide) ?_
            first | exact T239 _ (e1 (Classical.not_not.mp (fun q => c197 (k192.mpr q)))) | exact T239 _ (e2 (k192.mp c197) (Classical.not_not.mp (fun q => c208 (g202.mpr q)))) | exact T239 _ (e3 (k192.mp c197) (g202.mp c208) (Classical.not_not.mp (fun q => c223 (g218.mpr q)))) | exact T239 _ (e4 (k192.mp c197) (g202.mp c208) (g218.mp c223))
        · skip
          refine x_iload_n C dX7_value_211 rfl ?_
          refine x_sipush (v := 192) C dX7_value_212 (by decide) ?_
          refine x_isub C dX7_value_215 ?_
          refine x_goto (tgt := 239) C dX7_value_216 (by decide) ?_
          first | exact T239 _ (e1 (Classical.not_not.mp (fun q => c197 (k192.mpr q)))) | exact T239 _ (e2 (k192.mp c197) (Classical.not_not.mp (fun q => c208 (g202.mpr q)))) | exact T239 _ (e3 (k192.mp c197) (g202.mp c208) (Classical.not_not.mp (fun q => c223 (g218.mpr q)))) | exact T239 _ (e4 (k192.mp c197) (g202.mp c208) (g218.mp c223))
      · skip
        refine x_iload_n C dX7_value_200 rfl ?_
        refine x_goto (tgt := 239) C dX7_value_201 (by decide) ?_
        first | exact T239 _ (e1 (Classical.not_not.mp (fun q => c197 (k192.mpr q)))) | exact T239 _ (e2 (k192.mp c197) (Classical.not_not.mp (fun q => c208 (g202.mpr q)))) | exact T239 _ (e3 (k192.mp c197) (g202.mp c208) (Classical.not_not.mp (fun q => c223 (g218.mpr q)))) | exact T239 _ (e4 (k192.mp c197) (g202.mp c208) (g218.mp c223))
    · rw [bI_f h1] at ex
      subst ex
      rw [if_neg h1] at E
      refine x_iload C dX7_value_177 rfl ?_
      refine x_if_ne (tgt := 193) C dX7_value_179 (by decide) (fun c179 => absurd c179 (not_not_intro rfl)) (fun c179 => ?_)
      refine x_aload_n C dX7_value_182 rfl ?_
      refine x_bipush (v := 8) C dX7_value_183 (by decide) ?_
      refine x_iload C dX7_value_185 rfl ?_
      refine m_callF C Y hW E (s_blame hW _ _) rfl md_X7_blame wi_X7_blame ws_X7_blame wm_X7_207 dX7_value_187 rfl (by decide) (by decide) rfl (by simp [Value.category]) ?_
      refine x_istoreE (L' := [some _, some _, some _, some _, some _, some _, some _, none]) C dX7_value_190 (by rw [hn]; decide) rfl ?_
      refine m_vret C E dX7_value_192 ?_
      exact ⟨rfl, rfl⟩
  refine x_aload_n C dX7_value_129 rfl ?_
  refine m_get C Y 40 (by decide) (by decide) wf_X7_221 dX7_value_130 ?_
  refine x_iconst (v := 1) C dX7_value_133 (by decide) ?_
  refine x_isub C dX7_value_134 ?_
  rw [ha, nI_pred]
  refine x_istoreE (L' := [some _, some _, some _, some _, some _, none, none, none]) C dX7_value_135 (by rw [hn]; decide) rfl ?_
  refine x_iload_n C dX7_value_137 rfl ?_
  refine x_sipush (v := 202) C dX7_value_138 (by decide) ?_
  refine x_icmp_lt (tgt := 170) C dX7_value_141 (by decide) (fun c141 => ?_) (fun c141 => ?_)
  · skip
    refine x_iconst (v := 1) C dX7_value_170 (by decide) ?_
    refine x_goto (tgt := 175) C dX7_value_171 (by decide) ?_
    refine x_istoreE (L' := [some _, some _, some _, some _, some _, some _, none, none]) C dX7_value_175 (by rw [hn]; decide) rfl ?_
    first | exact T177 _ (bI_1 (Or.inl (k202.mp c141))) | exact T177 _ (bI_1 (Or.inr (Or.inl (kd.mp (bI_0n.mp c154))))) | exact T177 _ (bI_00 (fun q => q.elim (fun r => c141 (k202.mpr r)) (fun r => r.elim (fun t => c154 (fun u => bI_0.mp u (kd.mpr t))) (fun t => bI_0.mp c167 (kz.mpr t))))) | exact T177 _ (bI_00 (fun q => q.elim (fun r => c141 (k202.mpr r)) (fun r => r.elim (fun t => bI_0.mp c154 (kd.mpr t)) (fun t => bI_0.mp c167 (kz.mpr t))))) | exact T177 _ (bI_1 (Or.inr (Or.inr (kz.mp (bI_0n.mp c167)))))
  · skip
    refine x_iload_n C dX7_value_144 rfl ?_
    refine x_sipush (v := 208) C dX7_value_145 (by decide) ?_
    refine x_sipush (v := 217) C dX7_value_148 (by decide) ?_
    refine m_callSF C hW E (s_in _ _ _) md_X7_in wt_X7_in wm_X7_100 dX7_value_151 rfl (by decide) (by decide) rfl (by simp [Value.category]) ?_
    refine x_if_ne (tgt := 170) C dX7_value_154 (by decide) (fun c154 => ?_) (fun c154 => ?_)
    · skip
      refine x_iconst (v := 1) C dX7_value_170 (by decide) ?_
      refine x_goto (tgt := 175) C dX7_value_171 (by decide) ?_
      refine x_istoreE (L' := [some _, some _, some _, some _, some _, some _, none, none]) C dX7_value_175 (by rw [hn]; decide) rfl ?_
      first | exact T177 _ (bI_1 (Or.inl (k202.mp c141))) | exact T177 _ (bI_1 (Or.inr (Or.inl (kd.mp (bI_0n.mp c154))))) | exact T177 _ (bI_00 (fun q => q.elim (fun r => c141 (k202.mpr r)) (fun r => r.elim (fun t => c154 (fun u => bI_0.mp u (kd.mpr t))) (fun t => bI_0.mp c167 (kz.mpr t))))) | exact T177 _ (bI_00 (fun q => q.elim (fun r => c141 (k202.mpr r)) (fun r => r.elim (fun t => bI_0.mp c154 (kd.mpr t)) (fun t => bI_0.mp c167 (kz.mpr t))))) | exact T177 _ (bI_1 (Or.inr (Or.inr (kz.mp (bI_0n.mp c167)))))
    · skip
      refine x_iload_n C dX7_value_157 rfl ?_
      refine x_sipush (v := 224) C dX7_value_158 (by decide) ?_
      refine x_sipush (v := 232) C dX7_value_161 (by decide) ?_
      refine m_callSF C hW E (s_in _ _ _) md_X7_in wt_X7_in wm_X7_100 dX7_value_164 rfl (by decide) (by decide) rfl (by simp [Value.category]) ?_
      refine x_if_eq (tgt := 174) C dX7_value_167 (by decide) (fun c167 => ?_) (fun c167 => ?_)
      · skip
        refine x_iconst (v := 0) C dX7_value_174 (by decide) ?_
        refine x_istoreE (L' := [some _, some _, some _, some _, some _, some _, none, none]) C dX7_value_175 (by rw [hn]; decide) rfl ?_
        first | exact T177 _ (bI_1 (Or.inl (k202.mp c141))) | exact T177 _ (bI_1 (Or.inr (Or.inl (kd.mp (bI_0n.mp c154))))) | exact T177 _ (bI_00 (fun q => q.elim (fun r => c141 (k202.mpr r)) (fun r => r.elim (fun t => c154 (fun u => bI_0.mp u (kd.mpr t))) (fun t => bI_0.mp c167 (kz.mpr t))))) | exact T177 _ (bI_00 (fun q => q.elim (fun r => c141 (k202.mpr r)) (fun r => r.elim (fun t => bI_0.mp c154 (kd.mpr t)) (fun t => bI_0.mp c167 (kz.mpr t))))) | exact T177 _ (bI_1 (Or.inr (Or.inr (kz.mp (bI_0n.mp c167)))))
      · skip
        refine x_iconst (v := 1) C dX7_value_170 (by decide) ?_
        refine x_goto (tgt := 175) C dX7_value_171 (by decide) ?_
        refine x_istoreE (L' := [some _, some _, some _, some _, some _, some _, none, none]) C dX7_value_175 (by rw [hn]; decide) rfl ?_
        first | exact T177 _ (bI_1 (Or.inl (k202.mp c141))) | exact T177 _ (bI_1 (Or.inr (Or.inl (kd.mp (bI_0n.mp c154))))) | exact T177 _ (bI_00 (fun q => q.elim (fun r => c141 (k202.mpr r)) (fun r => r.elim (fun t => c154 (fun u => bI_0.mp u (kd.mpr t))) (fun t => bI_0.mp c167 (kz.mpr t))))) | exact T177 _ (bI_00 (fun q => q.elim (fun r => c141 (k202.mpr r)) (fun r => r.elim (fun t => bI_0.mp c154 (kd.mpr t)) (fun t => bI_0.mp c167 (kz.mpr t))))) | exact T177 _ (bI_1 (Or.inr (Or.inr (kz.mp (bI_0n.mp c167)))))
theorem s_val_13 (hW : Wm w M) (a e r tx V : Nat) (ha : S.i 40 = nI a) (he : S.i 39 = nI e) (he3 : e ≤ 300) (hae : a ≤ e) (hr : S.i 23 = nI r) (hr1 : r < 100) (ht : S.i 34 = nI tx) (ht1 : tx + 300 ≤ 26000) (h41 : S.i 41 = 0) (hV : a < e → V < 256 ∧ S.a 38 a = nI V) : TF w M yX7_value cX7_value 8 none 2 [.int (nI 13)] S none (f_valD S a e r tx V) := by
  refine TM.intro hW rfl (Nat.le_of_ble_eq_true rfl) (fun z C Y E hn => ?_)
  unfold f_valD at E
  by_cases h1 : a < e
  · rw [if_pos h1] at E
    obtain ⟨v1, v2⟩ := hV h1
    have hx := s_next (S := S) hW a e ha he he3 h1
    rw [v2] at hx
    have hvl : f_vn V ≤ 300 := by unfold f_vn; split <;> (try split) <;> (try split) <;> omega
    have f0 : (S.si 40 (nI (a + 1))).i 41 ≤ 0 := by rw [MS.si_i, if_neg (by decide), h41]; decide
    have T := val129 (S := S.si 40 (nI (a + 1))) hW a e r tx V v1 rfl he he3 (by omega) hr hr1 ht (by omega) C Y hn E
    refine x_iload_n C dX7_value_0 rfl ?_
    refine x_if_ne (tgt := 8) C dX7_value_1 (by decide) (fun c1 => ?_) (fun c1 => absurd c1 (by decide))
    refine x_iload_n C dX7_value_8 rfl ?_
    refine x_iconst (v := 5) C dX7_value_9 (by decide) ?_
    refine x_icmp_ge (tgt := 17) C dX7_value_10 (by decide) (fun c10 => ?_) (fun c10 => absurd c10 (not_not_intro (by decide)))
    refine x_iload_n C dX7_value_17 rfl ?_
    refine x_iconst (v := 5) C dX7_value_18 (by decide) ?_
    refine x_icmp_ne (tgt := 26) C dX7_value_19 (by decide) (fun c19 => ?_) (fun c19 => absurd c19 (by decide))
    refine x_iload_n C dX7_value_26 rfl ?_
    refine x_bipush (v := 6) C dX7_value_27 (by decide) ?_
    refine x_icmp_ne (tgt := 37) C dX7_value_29 (by decide) (fun c29 => ?_) (fun c29 => absurd c29 (by decide))
    refine x_iload_n C dX7_value_37 rfl ?_
    refine x_bipush (v := 7) C dX7_value_38 (by decide) ?_
    refine x_icmp_ne (tgt := 48) C dX7_value_40 (by decide) (fun c40 => ?_) (fun c40 => absurd c40 (by decide))
    refine x_iload_n C dX7_value_48 rfl ?_
    refine x_bipush (v := 13) C dX7_value_49 (by decide) ?_
    refine x_icmp_ge (tgt := 61) C dX7_value_51 (by decide) (fun c51 => ?_) (fun c51 => absurd c51 (not_not_intro (by decide)))
    refine x_iload_n C dX7_value_61 rfl ?_
    refine x_bipush (v := 14) C dX7_value_62 (by decide) ?_
    refine x_icmp_ne (tgt := 72) C dX7_value_64 (by decide) (fun c64 => ?_) (fun c64 => absurd c64 (by decide))
    refine x_iconst (v := (-1)) C dX7_value_72 (by decide) ?_
    refine x_istore_nE (L' := [some _, some _, some _, none, none, none, none, none]) C dX7_value_73 (by rw [hn]; decide) rfl ?_
    refine x_iload_n C dX7_value_74 rfl ?_
    refine x_if_lt (tgt := 116) C dX7_value_75 (by decide) (fun c75 => ?_) (fun c75 => absurd c75 (not_not_intro (by decide)))
    refine x_aload_n C dX7_value_116 rfl ?_
    refine m_callF C Y hW E (hx) rfl md_X7_next wi_X7_next ws_X7_next wm_X7_227 dX7_value_117 rfl (by decide) (by decide) rfl (by simp [Value.category]) ?_
    refine x_istore_nE (L' := [some _, some _, some _, some _, none, none, none, none]) C dX7_value_120 (by rw [hn]; decide) rfl ?_
    refine x_aload_n C dX7_value_121 rfl ?_
    refine m_get C Y 41 (by decide) (by decide) wf_X7_204 dX7_value_122 ?_
    refine x_if_le (tgt := 129) C dX7_value_125 (by decide) (fun c125 => ?_) (fun c125 => absurd c125 (not_not_intro f0))
    exact T
  · rw [if_neg h1] at E
    have hx := s_next_e (S := S) hW a e ha he (by omega) (by omega)
    have f4 : ¬ (f_bl S 4 (nI e)).i 41 ≤ 0 := by unfold f_bl; rw [if_pos h41, MS.si_i, if_neg (by decide), MS.si_i, if_pos rfl]; decide
    refine x_iload_n C dX7_value_0 rfl ?_
    refine x_if_ne (tgt := 8) C dX7_value_1 (by decide) (fun c1 => ?_) (fun c1 => absurd c1 (by decide))
    refine x_iload_n C dX7_value_8 rfl ?_
    refine x_iconst (v := 5) C dX7_value_9 (by decide) ?_
    refine x_icmp_ge (tgt := 17) C dX7_value_10 (by decide) (fun c10 => ?_) (fun c10 => absurd c10 (not_not_intro (by decide)))
    refine x_iload_n C dX7_value_17 rfl ?_
    refine x_iconst (v := 5) C dX7_value_18 (by decide) ?_
    refine x_icmp_ne (tgt := 26) C dX7_value_19 (by decide) (fun c19 => ?_) (fun c19 => absurd c19 (by decide))
    refine x_iload_n C dX7_value_26 rfl ?_
    refine x_bipush (v := 6) C dX7_value_27 (by decide) ?_
    refine x_icmp_ne (tgt := 37) C dX7_value_29 (by decide) (fun c29 => ?_) (fun c29 => absurd c29 (by decide))
    refine x_iload_n C dX7_value_37 rfl ?_
    refine x_bipush (v := 7) C dX7_value_38 (by decide) ?_
    refine x_icmp_ne (tgt := 48) C dX7_value_40 (by decide) (fun c40 => ?_) (fun c40 => absurd c40 (by decide))
    refine x_iload_n C dX7_value_48 rfl ?_
    refine x_bipush (v := 13) C dX7_value_49 (by decide) ?_
    refine x_icmp_ge (tgt := 61) C dX7_value_51 (by decide) (fun c51 => ?_) (fun c51 => absurd c51 (not_not_intro (by decide)))
    refine x_iload_n C dX7_value_61 rfl ?_
    refine x_bipush (v := 14) C dX7_value_62 (by decide) ?_
    refine x_icmp_ne (tgt := 72) C dX7_value_64 (by decide) (fun c64 => ?_) (fun c64 => absurd c64 (by decide))
    refine x_iconst (v := (-1)) C dX7_value_72 (by decide) ?_
    refine x_istore_nE (L' := [some _, some _, some _, none, none, none, none, none]) C dX7_value_73 (by rw [hn]; decide) rfl ?_
    refine x_iload_n C dX7_value_74 rfl ?_
    refine x_if_lt (tgt := 116) C dX7_value_75 (by decide) (fun c75 => ?_) (fun c75 => absurd c75 (not_not_intro (by decide)))
    refine x_aload_n C dX7_value_116 rfl ?_
    refine m_callF C Y hW E (hx) rfl md_X7_next wi_X7_next ws_X7_next wm_X7_227 dX7_value_117 rfl (by decide) (by decide) rfl (by simp [Value.category]) ?_
    refine x_istore_nE (L' := [some _, some _, some _, some _, none, none, none, none]) C dX7_value_120 (by rw [hn]; decide) rfl ?_
    refine x_aload_n C dX7_value_121 rfl ?_
    refine m_get C Y 41 (by decide) (by decide) wf_X7_204 dX7_value_122 ?_
    refine x_if_le (tgt := 129) C dX7_value_125 (by decide) (fun c125 => absurd c125 f4) (fun c125 => ?_)
    refine m_vret C E dX7_value_128 ?_
    exact ⟨rfl, rfl⟩
end ValD
end
section
/-! MeterBusModel: a record: the loops over its extensions. -/
def f_at (S : MS) : Nat := (S.i 40).toNatClampNeg
def f_e (S : MS) : Nat := (S.i 39).toNatClampNeg
def WFp (S : MS) : Prop := S.i 40 = nI (f_at S) ∧ S.i 39 = nI (f_e S) ∧ f_at S ≤ f_e S ∧ f_e S ≤ 300
theorem WFp.of {S : MS} {a e : Nat} (h1 : S.i 40 = nI a) (h2 : S.i 39 = nI e) (h3 : a ≤ e) (h4 : e ≤ 300) : WFp S ∧ f_at S = a ∧ f_e S = e := by
  have e1 : f_at S = a := by unfold f_at; rw [h1, nI_clamp (by omega)]
  have e2 : f_e S = e := by unfold f_e; rw [h2, nI_clamp (by omega)]
  exact ⟨⟨by rw [e1]; exact h1, by rw [e2]; exact h2, by omega, by omega⟩, e1, e2⟩
theorem WFp.same {S S' : MS} (h : WFp S) (h1 : S'.i 40 = S.i 40) (h2 : S'.i 39 = S.i 39) : WFp S' := (WFp.of (h1.trans h.1) (h2.trans h.2.1) h.2.2.1 h.2.2.2).1
def f_nx (S : MS) : Int32 × MS := if f_at S < f_e S then (S.a 38 (f_at S), S.si 40 (nI (f_at S + 1))) else (0, f_bl S 4 (nI (f_e S)))
theorem WFp.nx {S : MS} (h : WFp S) : WFp (f_nx S).2 := by
  unfold f_nx
  split
  · exact (WFp.of (S := S.si 40 (nI (f_at S + 1))) rfl (show (S.si 40 (nI (f_at S + 1))).i 39 = nI (f_e S) from h.2.1) (by omega) h.2.2.2).1
  · exact h.same (f_bl_i _ _ _ (by decide) (by decide)) (f_bl_i _ _ _ (by decide) (by decide))
theorem f_nx_i (S : MS) {q : Nat} (h40 : q ≠ 40) (h41 : q ≠ 41) (h36 : q ≠ 36) : (f_nx S).2.i q = S.i q := by
  unfold f_nx
  split
  · show (S.si 40 _).i q = S.i q
    rw [MS.si_i, if_neg h40]
  · exact f_bl_i _ _ _ h41 h36
theorem f_nx_a (S : MS) (q j : Nat) : (f_nx S).2.a q j = S.a q j := by
  unfold f_nx
  split
  · rfl
  · exact f_bl_a _ _ _ _ _
def f_df1 (S : MS) (r : Nat) (b : Int32) (i : Nat) : MS :=
  ((S.sw 27 r (S.w 27 r ||| ((b.toInt64 &&& 15) <<< (((1 : Int32) + 4 * nI i).toInt64 &&& 63)))).sa 28 r (S.a 28 r ||| (((b >>> ((4 : Int32) &&& 31)) &&& 3) <<< (((2 : Int32) * nI i) &&& 31)))).sa 29 r (S.a 29 r ||| (((b >>> ((6 : Int32) &&& 31)) &&& 1) <<< (nI i &&& 31)))
def f_d2 (S : MS) (i : Nat) : MS := if i = 10 ∧ S.i 41 = 0 then f_bl S 5 (S.i 40 - 1) else S
def f_d3 (S : MS) (r : Nat) (b : Int32) (i : Nat) : MS := if i < 10 then f_df1 S r b i else S
def f_dl (r : Nat) : Nat → MS → Int32 → Nat → MS
  | 0, S, _, _ => S
  | t + 1, S, b, i => if 127 < b ∧ S.i 41 = 0 then f_dl r t (f_d3 (f_d2 (f_nx S).2 i) r (f_nx S).1 i) (f_nx S).1 (i + 1) else S
theorem f_d2_i (S : MS) (i : Nat) {q : Nat} (h41 : q ≠ 41) (h36 : q ≠ 36) : (f_d2 S i).i q = S.i q := by
  unfold f_d2
  split
  · exact f_bl_i _ _ _ h41 h36
  · rfl
theorem f_d3_i (S : MS) (r : Nat) (b : Int32) (i q : Nat) : (f_d3 S r b i).i q = S.i q := by
  unfold f_d3
  split
  · rfl
  · rfl
def f_v2 (S : MS) (i : Nat) : MS := if i = 11 ∧ S.i 41 = 0 then f_bl S 6 (S.i 40 - 1) else S
def f_v4 (S : MS) (r : Nat) (b : Int32) (i : Nat) : MS := if i < 11 ∧ S.i 41 = 0 then (S.sa 31 (11 * r + i) b).sa 30 r (S.a 30 r + 1) else S
def f_vl (r : Nat) : Nat → MS → Int32 → Nat → MS
  | 0, S, _, _ => S
  | t + 1, S, b, i => if 127 < b ∧ S.i 41 = 0 then f_vl r t (f_v4 (f_v2 (f_nx S).2 i) r (f_nx S).1 i) (f_nx S).1 (i + 1) else S
theorem f_v2_i (S : MS) (i : Nat) {q : Nat} (h41 : q ≠ 41) (h36 : q ≠ 36) : (f_v2 S i).i q = S.i q := by
  unfold f_v2
  split
  · exact f_bl_i _ _ _ h41 h36
  · rfl
theorem f_v4_i (S : MS) (r : Nat) (b : Int32) (i q : Nat) : (f_v4 S r b i).i q = S.i q := by
  unfold f_v4
  split
  · rfl
  · rfl
section Ext
variable {w : Wd} {M : MW} {S : MS} {z : Fx} {post : Option Value → MS → Prop}
theorem s_nx (hW : Wm w M) (h : WFp S) : TF w M yX7_next cX7_next 1 (some .int) 1 [] S (some (.int (f_nx S).1)) (f_nx S).2 := by
  unfold f_nx
  by_cases g : f_at S < f_e S
  · rw [if_pos g]
    exact s_next hW _ _ h.1 h.2.1 h.2.2.2 g
  · rw [if_neg g]
    exact s_next_e hW _ _ h.1 h.2.1 (by have := h.2.2; omega) (by omega)
/-- the loop over the DIFEs, from pc 238 -/
theorem rc1 (hW : Wm w M) (C : Cx z RX7 cX7_oneRecord gw) (Y : Mty z M) (E : Ct z w gw yX7_oneRecord none 3 (40 * 3) (PM M post)) (hn : z.nL = 7) (r : Nat) (hr1 : r < 100) (fv dv cv : Int32) (R : MS)
    (kk : ∀ l4 l5 l6 : Option Value, X z 0 0 (MA M R) 369 [some (.ref M.o), some (.int fv), some (.int dv), some (.int cv), l4, l5, l6] []) :
    ∀ (t : Nat) (S : MS) (b : Int32) (i : Nat) (l6 : Option Value), i + t = 12 → WFp S → S.i 23 = nI r → (i ≤ 10 ∨ ¬ S.i 41 = 0) → f_dl r t S b i = R → X z 0 0 (MA M S) 238 [some (.ref M.o), some (.int fv), some (.int dv), some (.int cv), some (.int b), some (.int (nI i)), l6] [] := by
  intro t
  induction t with
  | zero =>
    intro S b i l6 hi hp hr hv e
    have e : S = R := e
    subst e
    have h41 : ¬ S.i 41 = 0 := hv.elim (fun q => absurd q (by omega)) id
    refine x_iload C dX7_oneRecord_238 rfl ?_
    refine x_bipush (v := 127) C dX7_oneRecord_240 (by decide) ?_
    refine x_icmp_le (tgt := 369) C dX7_oneRecord_242 (by decide) (fun c242 => ?_) (fun c242 => ?_)
    · skip
      exact kk _ _ _
    · skip
      refine x_aload_n C dX7_oneRecord_245 rfl ?_
      refine m_get C Y 41 (by decide) (by decide) wf_X7_204 dX7_oneRecord_246 ?_
      refine x_if_ne (tgt := 369) C dX7_oneRecord_249 (by decide) (fun c249 => ?_) (fun c249 => absurd c249 (fun q => h41 q))
      exact kk _ _ _
  | succ t ih =>
    intro S b i l6 hi hp hr hv e
    have c127 : b ≤ 127 ↔ ¬ 127 < b := Int32.not_lt.symm
    by_cases h1 : 127 < b ∧ S.i 41 = 0
    · rw [f_dl, if_pos h1] at e
      have hi10 : i ≤ 10 := hv.elim id (fun q => absurd h1.2 q)
      have hx := s_nx hW hp
      have hp1 := hp.nx
      have hr2 : (f_nx S).2.i 23 = nI r := (f_nx_i S (by decide) (by decide) (by decide)).trans hr
      have k10 : nI i = 10 ↔ i = 10 := by rw [show (10 : Int32) = nI 10 from rfl, nI_eq (by omega) (by omega)]
      have g10 : 10 ≤ nI i ↔ ¬ i < 10 := by rw [show (10 : Int32) = nI 10 from rfl, nI_leI (by omega) (by omega)]; omega
      have hf1 : i = 10 → ¬ (f_d2 (f_nx S).2 i).i 41 = 0 := by
        intro hi2
        unfold f_d2
        by_cases q : (f_nx S).2.i 41 = 0
        · rw [if_pos ⟨hi2, q⟩]; unfold f_bl; rw [if_pos q, MS.si_i, if_neg (by decide), MS.si_i, if_pos rfl]; decide
        · rw [if_neg (fun u => q u.2)]; exact q
      generalize f_nx S = nx at e hx hp1 hr2 hf1
      obtain ⟨b1, S1⟩ := nx
      have T285 : ∀ l6 : Option Value, X z 0 0 (MA M (f_d2 S1 i)) 285 [some (.ref M.o), some (.int fv), some (.int dv), some (.int cv), some (.int b1), some (.int (nI i)), l6] [] := by
        intro l6
        have hp2 : WFp (f_d2 S1 i) := hp1.same (f_d2_i _ _ (by decide) (by decide)) (f_d2_i _ _ (by decide) (by decide))
        have hr3 : (f_d2 S1 i).i 23 = nI r := (f_d2_i _ _ (by decide) (by decide)).trans hr2
        dsimp only at e hf1
        generalize f_d2 S1 i = S2 at e hp2 hr3 hf1 ⊢
        have ih2 := ih (f_d3 S2 r b1 i) b1 (i + 1) l6 (by omega) (hp2.same (f_d3_i _ _ _ _ _) (f_d3_i _ _ _ _ _)) ((f_d3_i _ _ _ _ _).trans hr3) (by
          rcases Nat.lt_or_ge i 10 with q | q
          · left; omega
          · right; rw [f_d3_i]; exact hf1 (by omega)) e
        unfold f_d3 at ih2
        by_cases h10 : i < 10
        · rw [if_pos h10] at ih2
          refine x_iload C dX7_oneRecord_285 rfl ?_
          refine x_bipush (v := 10) C dX7_oneRecord_287 (by decide) ?_
          refine x_icmp_ge (tgt := 363) C dX7_oneRecord_289 (by decide) (fun c289 => absurd c289 (fun q => g10.mp q h10)) (fun c289 => ?_)
          refine x_aload_n C dX7_oneRecord_292 rfl ?_
          refine m_getA C Y 27 (by decide) (by decide) wf_X7_66 dX7_oneRecord_293 ?_
          refine x_aload_n C dX7_oneRecord_296 rfl ?_
          refine m_get C Y 23 (by decide) (by decide) wf_X7_190 dX7_oneRecord_297 ?_
          refine x_dup2 C dX7_oneRecord_300 rfl rfl ?_
          refine m_lldN C Y 27 (r) (by decide) dX7_oneRecord_301 hr3 (by simp only [m_len]; omega) ?_
          refine x_iload C dX7_oneRecord_302 rfl ?_
          refine x_i2l C dX7_oneRecord_304 ?_
          refine x_ldc2 C wk_X7_234 dX7_oneRecord_305 ?_
          refine x_land C dX7_oneRecord_308 ?_
          refine x_iconst (v := 1) C dX7_oneRecord_309 (by decide) ?_
          refine x_iconst (v := 4) C dX7_oneRecord_310 (by decide) ?_
          refine x_iload C dX7_oneRecord_311 rfl ?_
          refine x_imul C dX7_oneRecord_313 ?_
          refine x_iadd C dX7_oneRecord_314 ?_
          refine x_lshl C dX7_oneRecord_315 ?_
          refine x_lor C dX7_oneRecord_316 ?_
          refine m_lstN C Y hW.2.1 27 (r) (by decide) dX7_oneRecord_317 hr3 (by simp only [m_len]; omega) ?_
          refine x_aload_n C dX7_oneRecord_318 rfl ?_
          refine m_getA C Y 28 (by decide) (by decide) wf_X7_69 dX7_oneRecord_319 ?_
          refine x_aload_n C dX7_oneRecord_322 rfl ?_
          refine m_get C Y 23 (by decide) (by decide) wf_X7_190 dX7_oneRecord_323 ?_
          refine x_dup2 C dX7_oneRecord_326 rfl rfl ?_
          refine m_ildN C Y 28 (r) (by decide) dX7_oneRecord_327 hr3 (by simp only [m_len]; omega) ?_
          refine x_iload C dX7_oneRecord_328 rfl ?_
          refine x_iconst (v := 4) C dX7_oneRecord_330 (by decide) ?_
          refine x_ishr C dX7_oneRecord_331 ?_
          refine x_iconst (v := 3) C dX7_oneRecord_332 (by decide) ?_
          refine x_iand C dX7_oneRecord_333 ?_
          refine x_iconst (v := 2) C dX7_oneRecord_334 (by decide) ?_
          refine x_iload C dX7_oneRecord_335 rfl ?_
          refine x_imul C dX7_oneRecord_337 ?_
          refine x_ishl C dX7_oneRecord_338 ?_
          refine x_ior C dX7_oneRecord_339 ?_
          refine m_istN C Y hW.2.1 28 (r) (by decide) dX7_oneRecord_340 hr3 (by simp only [m_len]; omega) ?_
          refine x_aload_n C dX7_oneRecord_341 rfl ?_
          refine m_getA C Y 29 (by decide) (by decide) wf_X7_72 dX7_oneRecord_342 ?_
          refine x_aload_n C dX7_oneRecord_345 rfl ?_
          refine m_get C Y 23 (by decide) (by decide) wf_X7_190 dX7_oneRecord_346 ?_
          refine x_dup2 C dX7_oneRecord_349 rfl rfl ?_
          refine m_ildN C Y 29 (r) (by decide) dX7_oneRecord_350 hr3 (by simp only [m_len]; omega) ?_
          refine x_iload C dX7_oneRecord_351 rfl ?_
          refine x_bipush (v := 6) C dX7_oneRecord_353 (by decide) ?_
          refine x_ishr C dX7_oneRecord_355 ?_
          refine x_iconst (v := 1) C dX7_oneRecord_356 (by decide) ?_
          refine x_iand C dX7_oneRecord_357 ?_
          refine x_iload C dX7_oneRecord_358 rfl ?_
          refine x_ishl C dX7_oneRecord_360 ?_
          refine x_ior C dX7_oneRecord_361 ?_
          refine m_istN C Y hW.2.1 29 (r) (by decide) dX7_oneRecord_362 hr3 (by simp only [m_len]; omega) ?_
          refine x_iincE (v := nI (i + 1)) (L' := [some _, some _, some _, some _, some _, some _, _]) C dX7_oneRecord_363 rfl (nI_1 i) (by rw [hn]; decide) rfl ?_
          refine x_goto (tgt := 238) C dX7_oneRecord_366 (by decide) ?_
          exact ih2
        · rw [if_neg h10] at ih2
          refine x_iload C dX7_oneRecord_285 rfl ?_
          refine x_bipush (v := 10) C dX7_oneRecord_287 (by decide) ?_
          refine x_icmp_ge (tgt := 363) C dX7_oneRecord_289 (by decide) (fun c289 => ?_) (fun c289 => absurd c289 (not_not_intro (g10.mpr h10)))
          refine x_iincE (v := nI (i + 1)) (L' := [some _, some _, some _, some _, some _, some _, _]) C dX7_oneRecord_363 rfl (nI_1 i) (by rw [hn]; decide) rfl ?_
          refine x_goto (tgt := 238) C dX7_oneRecord_366 (by decide) ?_
          exact ih2
      unfold f_d2 at T285
      refine x_iload C dX7_oneRecord_238 rfl ?_
      refine x_bipush (v := 127) C dX7_oneRecord_240 (by decide) ?_
      refine x_icmp_le (tgt := 369) C dX7_oneRecord_242 (by decide) (fun c242 => absurd c242 (fun q => c127.mp q h1.1)) (fun c242 => ?_)
      refine x_aload_n C dX7_oneRecord_245 rfl ?_
      refine m_get C Y 41 (by decide) (by decide) wf_X7_204 dX7_oneRecord_246 ?_
      refine x_if_ne (tgt := 369) C dX7_oneRecord_249 (by decide) (fun c249 => absurd c249 (not_not_intro h1.2)) (fun c249 => ?_)
      refine x_aload_n C dX7_oneRecord_252 rfl ?_
      refine m_callF C Y hW E (hx) rfl md_X7_next wi_X7_next ws_X7_next wm_X7_227 dX7_oneRecord_253 rfl (by decide) (by decide) rfl (by simp [Value.category]) ?_
      refine x_istoreE (L' := [some _, some _, some _, some _, some _, some _, _]) C dX7_oneRecord_256 (by rw [hn]; decide) rfl ?_
      refine x_iload C dX7_oneRecord_258 rfl ?_
      refine x_bipush (v := 10) C dX7_oneRecord_260 (by decide) ?_
      refine x_icmp_ne (tgt := 285) C dX7_oneRecord_262 (by decide) (fun c262 => ?_) (fun c262 => ?_)
      · skip
        first | (rw [if_pos ⟨k10.mp c262, c269⟩] at T285; exact T285 _) | (rw [if_neg (fun q => c262 (k10.mpr q.1))] at T285; exact T285 _) | (rw [if_neg (fun q => c269 q.2)] at T285; exact T285 _)
      · skip
        refine x_aload_n C dX7_oneRecord_265 rfl ?_
        refine m_get C Y 41 (by decide) (by decide) wf_X7_204 dX7_oneRecord_266 ?_
        refine x_if_ne (tgt := 285) C dX7_oneRecord_269 (by decide) (fun c269 => ?_) (fun c269 => ?_)
        · skip
          first | (rw [if_pos ⟨k10.mp c262, c269⟩] at T285; exact T285 _) | (rw [if_neg (fun q => c262 (k10.mpr q.1))] at T285; exact T285 _) | (rw [if_neg (fun q => c269 q.2)] at T285; exact T285 _)
        · skip
          refine x_aload_n C dX7_oneRecord_272 rfl ?_
          refine x_iconst (v := 5) C dX7_oneRecord_273 (by decide) ?_
          refine x_aload_n C dX7_oneRecord_274 rfl ?_
          refine m_get C Y 40 (by decide) (by decide) wf_X7_221 dX7_oneRecord_275 ?_
          refine x_iconst (v := 1) C dX7_oneRecord_278 (by decide) ?_
          refine x_isub C dX7_oneRecord_279 ?_
          refine m_callF C Y hW E (s_blame hW _ _) rfl md_X7_blame wi_X7_blame ws_X7_blame wm_X7_207 dX7_oneRecord_280 rfl (by decide) (by decide) rfl (by simp [Value.category]) ?_
          refine x_istoreE (L' := [some _, some _, some _, some _, some _, some _, some _]) C dX7_oneRecord_283 (by rw [hn]; decide) rfl ?_
          first | (rw [if_pos ⟨k10.mp c262, c269⟩] at T285; exact T285 _) | (rw [if_neg (fun q => c262 (k10.mpr q.1))] at T285; exact T285 _) | (rw [if_neg (fun q => c269 q.2)] at T285; exact T285 _)
    · rw [f_dl, if_neg h1] at e
      subst e
      refine x_iload C dX7_oneRecord_238 rfl ?_
      refine x_bipush (v := 127) C dX7_oneRecord_240 (by decide) ?_
      refine x_icmp_le (tgt := 369) C dX7_oneRecord_242 (by decide) (fun c242 => ?_) (fun c242 => ?_)
      · skip
        exact kk _ _ _
      · skip
        refine x_aload_n C dX7_oneRecord_245 rfl ?_
        refine m_get C Y 41 (by decide) (by decide) wf_X7_204 dX7_oneRecord_246 ?_
        refine x_if_ne (tgt := 369) C dX7_oneRecord_249 (by decide) (fun c249 => ?_) (fun c249 => ?_)
        · skip
          exact kk _ _ _
        · skip
          exact absurd ⟨Classical.not_not.mp (fun q => c242 (c127.mpr q)), c249⟩ h1
end Ext
end
section
/-! MeterBusModel: a record, whole. -/
def f_r (S : MS) : Nat := (S.i 23).toNatClampNeg
def f_tx (S : MS) : Nat := (S.i 34).toNatClampNeg
def f_size (cc : Nat) : Nat := match cc with
  | 0 => 0 | 1 => 1 | 2 => 2 | 3 => 3 | 4 => 4 | 5 => 4 | 6 => 6 | 7 => 8 | 9 => 1 | 10 => 2 | 11 => 3 | 12 => 4 | _ => 6
def f_value (S : MS) (cc : Nat) : MS := if cc = 13 then f_valD S (f_at S) (f_e S) (f_r S) (f_tx S) (S.a 38 (f_at S)).toNatClampNeg else f_valN S (f_at S) (f_e S) (f_r S) cc (f_size cc)
/-- the data are bytes -/
def WFd (S : MS) : Prop := ∀ j, j < 300 → ∃ b, b < 256 ∧ S.a 38 j = nI b
theorem WFd.b {S : MS} (h : WFd S) {j : Nat} (hj : j < 300) : (S.a 38 j).toNatClampNeg < 256 ∧ S.a 38 j = nI (S.a 38 j).toNatClampNeg := by
  obtain ⟨b, h1, h2⟩ := h j hj
  rw [h2, nI_clamp (by omega)]
  exact ⟨h1, rfl⟩
section Rec
variable {w : Wd} {M : MW} {S : MS} {z : Fx} {post : Option Value → MS → Prop}
/-- the loop over VIF and VIFEs, from pc 377 -/
theorem rc2 (hW : Wm w M) (C : Cx z RX7 cX7_oneRecord gw) (Y : Mty z M) (E : Ct z w gw yX7_oneRecord none 3 (40 * 3) (PM M post)) (hn : z.nL = 7) (r : Nat) (hr1 : r < 100) (fv dv cv : Int32) (R : MS)
    (kk : ∀ l4 l5 l6 : Option Value, X z 0 0 (MA M R) 475 [some (.ref M.o), some (.int fv), some (.int dv), some (.int cv), l4, l5, l6] []) :
    ∀ (t : Nat) (S : MS) (b : Int32) (i : Nat) (l6 : Option Value), i + t = 13 → WFp S → S.i 23 = nI r → (i ≤ 11 ∨ ¬ S.i 41 = 0) → f_vl r t S b i = R → X z 0 0 (MA M S) 377 [some (.ref M.o), some (.int fv), some (.int dv), some (.int cv), some (.int b), some (.int (nI i)), l6] [] := by
  intro t
  induction t with
  | zero =>
    intro S b i l6 hi hp hr hv e
    have e : S = R := e
    subst e
    have h41 : ¬ S.i 41 = 0 := hv.elim (fun q => absurd q (by omega)) id
    refine x_iload C dX7_oneRecord_377 rfl ?_
    refine x_bipush (v := 127) C dX7_oneRecord_379 (by decide) ?_
    refine x_icmp_le (tgt := 475) C dX7_oneRecord_381 (by decide) (fun c381 => ?_) (fun c381 => ?_)
    · skip
      exact kk _ _ _
    · skip
      refine x_aload_n C dX7_oneRecord_384 rfl ?_
      refine m_get C Y 41 (by decide) (by decide) wf_X7_204 dX7_oneRecord_385 ?_
      refine x_if_ne (tgt := 475) C dX7_oneRecord_388 (by decide) (fun c388 => ?_) (fun c388 => absurd c388 (fun q => h41 q))
      exact kk _ _ _
  | succ t ih =>
    intro S b i l6 hi hp hr hv e
    have c127 : b ≤ 127 ↔ ¬ 127 < b := Int32.not_lt.symm
    by_cases h1 : 127 < b ∧ S.i 41 = 0
    · rw [f_vl, if_pos h1] at e
      have hi11 : i ≤ 11 := hv.elim id (fun q => absurd h1.2 q)
      have hx := s_nx hW hp
      have hp1 := hp.nx
      have hr2 : (f_nx S).2.i 23 = nI r := (f_nx_i S (by decide) (by decide) (by decide)).trans hr
      have k11 : nI i = 11 ↔ i = 11 := by rw [show (11 : Int32) = nI 11 from rfl, nI_eq (by omega) (by omega)]
      have g11 : 11 ≤ nI i ↔ ¬ i < 11 := by rw [show (11 : Int32) = nI 11 from rfl, nI_leI (by omega) (by omega)]; omega
      have hf1 : i = 11 → ¬ (f_v2 (f_nx S).2 i).i 41 = 0 := by
        intro hi2
        unfold f_v2
        by_cases q : (f_nx S).2.i 41 = 0
        · rw [if_pos ⟨hi2, q⟩]; unfold f_bl; rw [if_pos q, MS.si_i, if_neg (by decide), MS.si_i, if_pos rfl]; decide
        · rw [if_neg (fun u => q u.2)]; exact q
      generalize f_nx S = nx at e hx hp1 hr2 hf1
      obtain ⟨b1, S1⟩ := nx
      have T425 : ∀ l6 : Option Value, X z 0 0 (MA M (f_v2 S1 i)) 425 [some (.ref M.o), some (.int fv), some (.int dv), some (.int cv), some (.int b1), some (.int (nI i)), l6] [] := by
        intro l6
        have hp2 : WFp (f_v2 S1 i) := hp1.same (f_v2_i _ _ (by decide) (by decide)) (f_v2_i _ _ (by decide) (by decide))
        have hr3 : (f_v2 S1 i).i 23 = nI r := (f_v2_i _ _ (by decide) (by decide)).trans hr2
        dsimp only at e hf1
        generalize f_v2 S1 i = S2 at e hp2 hr3 hf1 ⊢
        have ih2 := ih (f_v4 S2 r b1 i) b1 (i + 1) l6 (by omega) (hp2.same (f_v4_i _ _ _ _ _) (f_v4_i _ _ _ _ _)) ((f_v4_i _ _ _ _ _).trans hr3) (by
          rcases Nat.lt_or_ge i 11 with q | q
          · left; omega
          · right; rw [f_v4_i]; exact hf1 (by omega)) e
        unfold f_v4 at ih2
        have e30 : (S2.sa 31 (11 * r + i) b1).a 30 r = S2.a 30 r := sa_ne (by decide)
        refine x_iload C dX7_oneRecord_425 rfl ?_
        refine x_bipush (v := 11) C dX7_oneRecord_427 (by decide) ?_
        refine x_icmp_ge (tgt := 469) C dX7_oneRecord_429 (by decide) (fun c429 => ?_) (fun c429 => ?_)
        · skip
          refine x_iincE (v := nI (i + 1)) (L' := [some _, some _, some _, some _, some _, some _, _]) C dX7_oneRecord_469 rfl (nI_1 i) (by rw [hn]; decide) rfl ?_
          refine x_goto (tgt := 377) C dX7_oneRecord_472 (by decide) ?_
          first | (rw [if_pos ⟨Classical.not_not.mp (fun q => c429 (g11.mpr q)), c436⟩] at ih2; exact ih2) | (rw [if_neg (fun q => g11.mp c429 q.1)] at ih2; exact ih2) | (rw [if_neg (fun q => c436 q.2)] at ih2; exact ih2)
        · skip
          refine x_aload_n C dX7_oneRecord_432 rfl ?_
          refine m_get C Y 41 (by decide) (by decide) wf_X7_204 dX7_oneRecord_433 ?_
          refine x_if_ne (tgt := 469) C dX7_oneRecord_436 (by decide) (fun c436 => ?_) (fun c436 => ?_)
          · skip
            refine x_iincE (v := nI (i + 1)) (L' := [some _, some _, some _, some _, some _, some _, _]) C dX7_oneRecord_469 rfl (nI_1 i) (by rw [hn]; decide) rfl ?_
            refine x_goto (tgt := 377) C dX7_oneRecord_472 (by decide) ?_
            first | (rw [if_pos ⟨Classical.not_not.mp (fun q => c429 (g11.mpr q)), c436⟩] at ih2; exact ih2) | (rw [if_neg (fun q => g11.mp c429 q.1)] at ih2; exact ih2) | (rw [if_neg (fun q => c436 q.2)] at ih2; exact ih2)
          · skip
            refine x_aload_n C dX7_oneRecord_439 rfl ?_
            refine m_getA C Y 31 (by decide) (by decide) wf_X7_78 dX7_oneRecord_440 ?_
            refine x_bipush (v := 11) C dX7_oneRecord_443 (by decide) ?_
            refine x_aload_n C dX7_oneRecord_445 rfl ?_
            refine m_get C Y 23 (by decide) (by decide) wf_X7_190 dX7_oneRecord_446 ?_
            refine x_imul C dX7_oneRecord_449 ?_
            refine x_iload C dX7_oneRecord_450 rfl ?_
            refine x_iadd C dX7_oneRecord_452 ?_
            refine x_iload C dX7_oneRecord_453 rfl ?_
            refine m_istN C Y hW.2.1 31 (11 * r + i) (by decide) dX7_oneRecord_455 (by rw [hr3]; simp only [nI_lit, nI_add, pk_mul]) (by simp only [m_len]; have := Classical.not_not.mp (fun q => c429 (g11.mpr q)); omega) ?_
            refine x_aload_n C dX7_oneRecord_456 rfl ?_
            refine m_getA C Y 30 (by decide) (by decide) wf_X7_75 dX7_oneRecord_457 ?_
            refine x_aload_n C dX7_oneRecord_460 rfl ?_
            refine m_get C Y 23 (by decide) (by decide) wf_X7_190 dX7_oneRecord_461 ?_
            refine x_dup2 C dX7_oneRecord_464 rfl rfl ?_
            refine m_ildN C Y 30 (r) (by decide) dX7_oneRecord_465 hr3 (by simp only [m_len]; omega) ?_
            rw [e30]
            refine x_iconst (v := 1) C dX7_oneRecord_466 (by decide) ?_
            refine x_iadd C dX7_oneRecord_467 ?_
            refine m_istN C Y hW.2.1 30 (r) (by decide) dX7_oneRecord_468 hr3 (by simp only [m_len]; omega) ?_
            refine x_iincE (v := nI (i + 1)) (L' := [some _, some _, some _, some _, some _, some _, _]) C dX7_oneRecord_469 rfl (nI_1 i) (by rw [hn]; decide) rfl ?_
            refine x_goto (tgt := 377) C dX7_oneRecord_472 (by decide) ?_
            first | (rw [if_pos ⟨Classical.not_not.mp (fun q => c429 (g11.mpr q)), c436⟩] at ih2; exact ih2) | (rw [if_neg (fun q => g11.mp c429 q.1)] at ih2; exact ih2) | (rw [if_neg (fun q => c436 q.2)] at ih2; exact ih2)
      unfold f_v2 at T425
      refine x_iload C dX7_oneRecord_377 rfl ?_
      refine x_bipush (v := 127) C dX7_oneRecord_379 (by decide) ?_
      refine x_icmp_le (tgt := 475) C dX7_oneRecord_381 (by decide) (fun c381 => absurd c381 (fun q => c127.mp q h1.1)) (fun c381 => ?_)
      refine x_aload_n C dX7_oneRecord_384 rfl ?_
      refine m_get C Y 41 (by decide) (by decide) wf_X7_204 dX7_oneRecord_385 ?_
      refine x_if_ne (tgt := 475) C dX7_oneRecord_388 (by decide) (fun c388 => absurd c388 (not_not_intro h1.2)) (fun c388 => ?_)
      refine x_aload_n C dX7_oneRecord_391 rfl ?_
      refine m_callF C Y hW E (hx) rfl md_X7_next wi_X7_next ws_X7_next wm_X7_227 dX7_oneRecord_392 rfl (by decide) (by decide) rfl (by simp [Value.category]) ?_
      refine x_istoreE (L' := [some _, some _, some _, some _, some _, some _, _]) C dX7_oneRecord_395 (by rw [hn]; decide) rfl ?_
      refine x_iload C dX7_oneRecord_397 rfl ?_
      refine x_bipush (v := 11) C dX7_oneRecord_399 (by decide) ?_
      refine x_icmp_ne (tgt := 425) C dX7_oneRecord_401 (by decide) (fun c401 => ?_) (fun c401 => ?_)
      · skip
        first | (rw [if_pos ⟨k11.mp c401, c408⟩] at T425; exact T425 _) | (rw [if_neg (fun q => c401 (k11.mpr q.1))] at T425; exact T425 _) | (rw [if_neg (fun q => c408 q.2)] at T425; exact T425 _)
      · skip
        refine x_aload_n C dX7_oneRecord_404 rfl ?_
        refine m_get C Y 41 (by decide) (by decide) wf_X7_204 dX7_oneRecord_405 ?_
        refine x_if_ne (tgt := 425) C dX7_oneRecord_408 (by decide) (fun c408 => ?_) (fun c408 => ?_)
        · skip
          first | (rw [if_pos ⟨k11.mp c401, c408⟩] at T425; exact T425 _) | (rw [if_neg (fun q => c401 (k11.mpr q.1))] at T425; exact T425 _) | (rw [if_neg (fun q => c408 q.2)] at T425; exact T425 _)
        · skip
          refine x_aload_n C dX7_oneRecord_411 rfl ?_
          refine x_bipush (v := 6) C dX7_oneRecord_412 (by decide) ?_
          refine x_aload_n C dX7_oneRecord_414 rfl ?_
          refine m_get C Y 40 (by decide) (by decide) wf_X7_221 dX7_oneRecord_415 ?_
          refine x_iconst (v := 1) C dX7_oneRecord_418 (by decide) ?_
          refine x_isub C dX7_oneRecord_419 ?_
          refine m_callF C Y hW E (s_blame hW _ _) rfl md_X7_blame wi_X7_blame ws_X7_blame wm_X7_207 dX7_oneRecord_420 rfl (by decide) (by decide) rfl (by simp [Value.category]) ?_
          refine x_istoreE (L' := [some _, some _, some _, some _, some _, some _, some _]) C dX7_oneRecord_423 (by rw [hn]; decide) rfl ?_
          first | (rw [if_pos ⟨k11.mp c401, c408⟩] at T425; exact T425 _) | (rw [if_neg (fun q => c401 (k11.mpr q.1))] at T425; exact T425 _) | (rw [if_neg (fun q => c408 q.2)] at T425; exact T425 _)
    · rw [f_vl, if_neg h1] at e
      subst e
      refine x_iload C dX7_oneRecord_377 rfl ?_
      refine x_bipush (v := 127) C dX7_oneRecord_379 (by decide) ?_
      refine x_icmp_le (tgt := 475) C dX7_oneRecord_381 (by decide) (fun c381 => ?_) (fun c381 => ?_)
      · skip
        exact kk _ _ _
      · skip
        refine x_aload_n C dX7_oneRecord_384 rfl ?_
        refine m_get C Y 41 (by decide) (by decide) wf_X7_204 dX7_oneRecord_385 ?_
        refine x_if_ne (tgt := 475) C dX7_oneRecord_388 (by decide) (fun c388 => ?_) (fun c388 => ?_)
        · skip
          exact kk _ _ _
        · skip
          exact absurd ⟨Classical.not_not.mp (fun q => c381 (c127.mpr q)), c388⟩ h1
theorem s_value (hW : Wm w M) (cc : Nat) (hc : cc < 15) (hc8 : cc ≠ 8) (hp : WFp S) (hd : WFd S) (hr : S.i 23 = nI (f_r S)) (hr1 : f_r S < 100) (ht : S.i 34 = nI (f_tx S)) (ht1 : f_tx S + 300 ≤ 26000) (h41 : S.i 41 = 0) : TF w M yX7_value cX7_value 8 none 2 [.int (nI cc)] S none (f_value S cc) := by
  have h13 := s_val_13 (S := S) hW (f_at S) (f_e S) (f_r S) (f_tx S) (S.a 38 (f_at S)).toNatClampNeg hp.1 hp.2.1 hp.2.2.2 hp.2.2.1 hr hr1 ht ht1 h41 (fun g => hd.b (by have := hp.2.2; omega))
  unfold f_value
  match cc, hc, hc8 with
  | 0, _, _ => exact s_val_0 hW _ _ _ hp.1 hp.2.1 hp.2.2.2 hp.2.2.1 hr hr1
  | 1, _, _ => exact s_val_1 hW _ _ _ hp.1 hp.2.1 hp.2.2.2 hp.2.2.1 hr hr1
  | 2, _, _ => exact s_val_2 hW _ _ _ hp.1 hp.2.1 hp.2.2.2 hp.2.2.1 hr hr1
  | 3, _, _ => exact s_val_3 hW _ _ _ hp.1 hp.2.1 hp.2.2.2 hp.2.2.1 hr hr1
  | 4, _, _ => exact s_val_4 hW _ _ _ hp.1 hp.2.1 hp.2.2.2 hp.2.2.1 hr hr1
  | 5, _, _ => exact s_val_5 hW _ _ _ hp.1 hp.2.1 hp.2.2.2 hp.2.2.1 hr hr1
  | 6, _, _ => exact s_val_6 hW _ _ _ hp.1 hp.2.1 hp.2.2.2 hp.2.2.1 hr hr1
  | 7, _, _ => exact s_val_7 hW _ _ _ hp.1 hp.2.1 hp.2.2.2 hp.2.2.1 hr hr1
  | 8, _, h => exact absurd rfl h
  | 9, _, _ => exact s_val_9 hW _ _ _ hp.1 hp.2.1 hp.2.2.2 hp.2.2.1 hr hr1
  | 10, _, _ => exact s_val_10 hW _ _ _ hp.1 hp.2.1 hp.2.2.2 hp.2.2.1 hr hr1
  | 11, _, _ => exact s_val_11 hW _ _ _ hp.1 hp.2.1 hp.2.2.2 hp.2.2.1 hr hr1
  | 12, _, _ => exact s_val_12 hW _ _ _ hp.1 hp.2.1 hp.2.2.2 hp.2.2.1 hr hr1
  | 13, _, _ => exact h13
  | 14, _, _ => exact s_val_14 hW _ _ _ hp.1 hp.2.1 hp.2.2.2 hp.2.2.1 hr hr1
  | n + 15, h, _ => exact absurd h (by omega)
end Rec
end
