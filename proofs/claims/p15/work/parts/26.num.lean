/-! MeterBusModel: texts, numbers, digits. -/
section Rows
variable {z : Fx} {own : String} {cc : ByteArray} {Ts : List Cond} {kc ks pc : Nat} {A : PH → Prop} {L : List (Option Value)} {st : List Value}
theorem x_lconst (C : Cx z own cc Ts) {n : Fin 2} {v : Int64} (d : decode cc pc = .ok (.lconst n, 1)) (g : Int64.ofNat (n : Nat) = v) (k : X z kc ks A (pc + 1) L (.long v :: st)) : X z kc ks A pc L st := by
  intro H locs ls cells slots hp hS hl c1 c2
  exact lv_lconst C.x C.b d g (k H locs ls cells slots hp hS hl c1 c2)
end Rows
def f_txl (S : MS) (tx a : Nat) : Nat → MS
  | 0 => S
  | k + 1 => (((f_txl S tx a k).sa 35 (tx + k) (S.a 38 (a + k))).si 34 (nI (tx + (k + 1)))).si 40 (nI (a + (k + 1)))
theorem f_txl_38 (S : MS) (tx a k j : Nat) : (f_txl S tx a k).a 38 j = S.a 38 j := by
  induction k with
  | zero => rfl
  | succ k ih => rw [f_txl, MS.si_a, MS.si_a, sa_ne (by decide), ih]
theorem f_txl_34 (S : MS) (tx a k : Nat) (h : S.i 34 = nI tx) : (f_txl S tx a k).i 34 = nI (tx + k) := by
  cases k with
  | zero => exact h
  | succ k => rfl
theorem f_txl_40 (S : MS) (tx a k : Nat) (h : S.i 40 = nI a) : (f_txl S tx a k).i 40 = nI (a + k) := by
  cases k with
  | zero => exact h
  | succ k => rfl
def f_text (S : MS) (r tx a n : Nat) : MS := f_txl ((S.sa 32 r (nI tx)).sa 33 r (nI n)) tx a n
def f_wh (S : MS) (a : Nat) : Nat → Int64 → Int64
  | 0, v => v
  | k + 1, v => f_wh S a k ((v <<< ((8 : Int32).toInt64 &&& 63)) ||| (S.a 38 (a + k)).toInt64)
def f_whole (S : MS) (a m : Nat) : Int64 := f_wh S a m (if 0 < m ∧ 127 < S.a 38 (a + m - 1) then -1 else 0)
section Num
variable {w : Wd} {M : MW} {S : MS}
theorem s_textTo (hW : Wm w M) (r tx a n : Nat) (hr : S.i 23 = nI r) (hr1 : r < 100) (ht : S.i 34 = nI tx) (ht1 : tx + n ≤ 26000) (ha : S.i 40 = nI a) (ha1 : a + n ≤ 300) : TF w M yX7_textTo cX7_textTo 3 none 0 [.int (nI n)] S none (f_text S r tx a n) := by
  refine TM.intro hW rfl (Nat.le_of_ble_eq_true rfl) (fun z C Y E hn => ?_)
  unfold f_text at E
  generalize hS0 : (S.sa 32 r (nI tx)).sa 33 r (nI n) = S0 at E
  have t0 : S0.i 34 = nI tx := by rw [← hS0]; exact ht
  have a0 : S0.i 40 = nI a := by rw [← hS0]; exact ha
  have LP : ∀ (t b : Nat), b + t = n → X z 0 0 (MA M (f_txl S0 tx a b)) 25 [some (.ref M.o), some (.int (nI n)), some (.int (nI b))] [] := by
    intro t
    induction t with
    | zero =>
      intro b hb
      obtain rfl : b = n := by omega
      refine x_iload_n C dX7_textTo_25 rfl ?_
      refine x_iload_n C dX7_textTo_26 rfl ?_
      refine x_icmp_ge (tgt := 74) C dX7_textTo_27 (by decide) (fun c27 => ?_) (fun c27 => absurd c27 (not_not_intro (Int32.le_refl _)))
      refine m_vret C E dX7_textTo_74 ?_
      exact ⟨rfl, rfl⟩
    | succ t ih =>
      intro b hb
      have ih2 := ih (b + 1) (by omega)
      refine x_iload_n C dX7_textTo_25 rfl ?_
      refine x_iload_n C dX7_textTo_26 rfl ?_
      refine x_icmp_ge (tgt := 74) C dX7_textTo_27 (by decide) (fun c27 => absurd c27 (nI_ge (show b < n by omega) (by omega))) (fun c27 => ?_)
      refine x_aload_n C dX7_textTo_30 rfl ?_
      refine m_getA C Y 35 (by decide) (by decide) wf_X7_87 dX7_textTo_31 ?_
      refine x_aload_n C dX7_textTo_34 rfl ?_
      refine m_get C Y 34 (by decide) (by decide) wf_X7_193 dX7_textTo_35 ?_
      refine x_aload_n C dX7_textTo_38 rfl ?_
      refine m_getA C Y 38 (by decide) (by decide) wf_X7_94 dX7_textTo_39 ?_
      refine x_aload_n C dX7_textTo_42 rfl ?_
      refine m_get C Y 40 (by decide) (by decide) wf_X7_221 dX7_textTo_43 ?_
      refine m_ildN C Y 38 (a + b) (by decide) dX7_textTo_46 (f_txl_40 S0 tx a b a0) (by simp only [m_len]; omega) ?_
      rw [f_txl_38]
      refine m_istN C Y hW.2.1 35 (tx + b) (by decide) dX7_textTo_47 (f_txl_34 S0 tx a b t0) (by simp only [m_len]; omega) ?_
      refine x_aload_n C dX7_textTo_48 rfl ?_
      refine x_dup C dX7_textTo_49 rfl ?_
      refine m_get C Y 34 (by decide) (by decide) wf_X7_193 dX7_textTo_50 ?_
      rw [MS.sa_i, f_txl_34 S0 tx a b t0]
      refine x_iconst (v := 1) C dX7_textTo_53 (by decide) ?_
      refine x_iadd C dX7_textTo_54 ?_
      rw [nI_1, Nat.add_assoc]
      refine m_put C Y hW.2.1 34 (by decide) (by decide) rfl rfl rfl wf_X7_193 dX7_textTo_55 ?_
      refine x_aload_n C dX7_textTo_58 rfl ?_
      refine x_dup C dX7_textTo_59 rfl ?_
      refine m_get C Y 40 (by decide) (by decide) wf_X7_221 dX7_textTo_60 ?_
      rw [MS.si_i, if_neg (by decide), MS.sa_i, f_txl_40 S0 tx a b a0]
      refine x_iconst (v := 1) C dX7_textTo_63 (by decide) ?_
      refine x_iadd C dX7_textTo_64 ?_
      rw [nI_1, Nat.add_assoc]
      refine m_put C Y hW.2.1 40 (by decide) (by decide) rfl rfl rfl wf_X7_221 dX7_textTo_65 ?_
      refine x_iincE (v := nI (b + 1)) (L' := [some _, some _, some _]) C dX7_textTo_68 rfl (nI_1 b) (by rw [hn]; decide) rfl ?_
      refine x_goto (tgt := 25) C dX7_textTo_71 (by decide) ?_
      exact ih2
  refine x_aload_n C dX7_textTo_0 rfl ?_
  refine m_getA C Y 32 (by decide) (by decide) wf_X7_81 dX7_textTo_1 ?_
  refine x_aload_n C dX7_textTo_4 rfl ?_
  refine m_get C Y 23 (by decide) (by decide) wf_X7_190 dX7_textTo_5 ?_
  refine x_aload_n C dX7_textTo_8 rfl ?_
  refine m_get C Y 34 (by decide) (by decide) wf_X7_193 dX7_textTo_9 ?_
  rw [ht]
  refine m_istN C Y hW.2.1 32 (r) (by decide) dX7_textTo_12 hr (by simp only [m_len]; omega) ?_
  refine x_aload_n C dX7_textTo_13 rfl ?_
  refine m_getA C Y 33 (by decide) (by decide) wf_X7_84 dX7_textTo_14 ?_
  refine x_aload_n C dX7_textTo_17 rfl ?_
  refine m_get C Y 23 (by decide) (by decide) wf_X7_190 dX7_textTo_18 ?_
  refine x_iload_n C dX7_textTo_21 rfl ?_
  refine m_istN C Y hW.2.1 33 (r) (by decide) dX7_textTo_22 hr (by simp only [m_len]; omega) ?_
  refine x_iconst (v := 0) C dX7_textTo_23 (by decide) ?_
  refine x_istore_nE (L' := [some _, some _, some _]) C dX7_textTo_24 (by rw [hn]; decide) rfl ?_
  rw [hS0]; exact LP n 0 (by omega)
theorem s_whole (hW : Wm w M) (a m : Nat) (ha : S.i 40 = nI a) (hm : m ≤ 8) (ham : a + m ≤ 300) : TF w M yX7_whole cX7_whole 5 (some .long) 0 [.int (nI m)] S (some (.long (f_whole S a m))) (S.si 40 (nI (a + m))) := by
  refine TM.intro hW rfl (Nat.le_of_ble_eq_true rfl) (fun z C Y E hn => ?_)
  have LP : ∀ (k : Nat) (x : Int64), k ≤ m → f_wh S a k x = f_whole S a m → X z 0 0 (MA M S) 35 [some (.ref M.o), some (.int (nI m)), some (.long x), none, some (.int (nI k - 1))] [] := by
    intro k
    induction k with
    | zero =>
      intro x _ e
      have e : x = f_whole S a m := e
      subst e
      have e1 : (nI 0 - 1 : Int32) < 0 := by decide
      refine x_iload C dX7_whole_35 rfl ?_
      refine x_if_lt (tgt := 65) C dX7_whole_37 (by decide) (fun c37 => ?_) (fun c37 => absurd c37 (not_not_intro e1))
      refine x_aload_n C dX7_whole_65 rfl ?_
      refine x_dup C dX7_whole_66 rfl ?_
      refine m_get C Y 40 (by decide) (by decide) wf_X7_221 dX7_whole_67 ?_
      refine x_iload_n C dX7_whole_70 rfl ?_
      refine x_iadd C dX7_whole_71 ?_
      rw [ha, nI_add]
      refine m_put C Y hW.2.1 40 (by decide) (by decide) rfl rfl rfl wf_X7_221 dX7_whole_72 ?_
      refine x_lload_n C dX7_whole_75 rfl ?_
      refine m_lret C E dX7_whole_76 ?_
      exact ⟨rfl, rfl⟩
    | succ k ih =>
      intro x hk e
      have ih2 := ih _ (by omega) e
      rw [nI_pred]
      refine x_iload C dX7_whole_35 rfl ?_
      refine x_if_lt (tgt := 65) C dX7_whole_37 (by decide) (fun c37 => absurd c37 (nI_pos (by omega))) (fun c37 => ?_)
      refine x_lload_n C dX7_whole_40 rfl ?_
      refine x_bipush (v := 8) C dX7_whole_41 (by decide) ?_
      refine x_lshl C dX7_whole_43 ?_
      refine x_aload_n C dX7_whole_44 rfl ?_
      refine m_getA C Y 38 (by decide) (by decide) wf_X7_94 dX7_whole_45 ?_
      refine x_aload_n C dX7_whole_48 rfl ?_
      refine m_get C Y 40 (by decide) (by decide) wf_X7_221 dX7_whole_49 ?_
      refine x_iload C dX7_whole_52 rfl ?_
      refine x_iadd C dX7_whole_54 ?_
      refine m_ildN C Y 38 (a + k) (by decide) dX7_whole_55 (by rw [ha, nI_add]) (by simp only [m_len]; omega) ?_
      refine x_i2l C dX7_whole_56 ?_
      refine x_lor C dX7_whole_57 ?_
      refine x_lstore_nE (L' := [some _, some _, some _, none, some _]) C dX7_whole_58 (by rw [hn]; decide) rfl ?_
      refine x_iincE (v := nI k - 1) (L' := [some _, some _, some _, none, some _]) C dX7_whole_59 rfl ((by rw [Int32.sub_eq_add_neg]; rfl)) (by rw [hn]; decide) rfl ?_
      refine x_goto (tgt := 35) C dX7_whole_62 (by decide) ?_
      exact ih2
  have i0 : nI m ≤ 0 ↔ ¬ 0 < m := by rw [show (0 : Int32) = nI 0 from rfl, nI_leI (by omega) (by omega)]; omega
  have T29 : ∀ x : Int64, x = (if 0 < m ∧ 127 < S.a 38 (a + m - 1) then -1 else 0) → X z 0 0 (MA M S) 29 [some (.ref M.o), some (.int (nI m)), none, none, none] [.long x] := by
    intro x ex
    have L0 := LP m x (Nat.le_refl m) (by rw [ex]; rfl)
    refine x_lstore_nE (L' := [some _, some _, some _, none, none]) C dX7_whole_29 (by rw [hn]; decide) rfl ?_
    refine x_iload_n C dX7_whole_30 rfl ?_
    refine x_iconst (v := 1) C dX7_whole_31 (by decide) ?_
    refine x_isub C dX7_whole_32 ?_
    refine x_istoreE (L' := [some _, some _, some _, none, some _]) C dX7_whole_33 (by rw [hn]; decide) rfl ?_
    exact L0
  have c127 : S.a 38 (a + m - 1) ≤ 127 ↔ ¬ 127 < S.a 38 (a + m - 1) := Int32.not_lt.symm
  refine x_iload_n C dX7_whole_0 rfl ?_
  refine x_if_le (tgt := 28) C dX7_whole_1 (by decide) (fun c1 => ?_) (fun c1 => ?_)
  · skip
    refine x_lconst (v := 0) C dX7_whole_28 (by decide) ?_
    first | exact T29 _ (if_neg (fun q => i0.mp c1 q.1)).symm | exact T29 _ (if_neg (fun q => c127.mp c19 q.2)).symm | exact T29 _ (if_pos ⟨m0, Classical.not_not.mp (fun q => c19 (c127.mpr q))⟩).symm
  · skip
    have m0 : 0 < m := Classical.not_not.mp (fun q => c1 (i0.mpr q))
    refine x_aload_n C dX7_whole_4 rfl ?_
    refine m_getA C Y 38 (by decide) (by decide) wf_X7_94 dX7_whole_5 ?_
    refine x_aload_n C dX7_whole_8 rfl ?_
    refine m_get C Y 40 (by decide) (by decide) wf_X7_221 dX7_whole_9 ?_
    refine x_iload_n C dX7_whole_12 rfl ?_
    refine x_iadd C dX7_whole_13 ?_
    refine x_iconst (v := 1) C dX7_whole_14 (by decide) ?_
    refine x_isub C dX7_whole_15 ?_
    refine m_ildN C Y 38 (a + m - 1) (by decide) dX7_whole_16 (by rw [ha, nI_add, show (1 : Int32) = nI 1 from rfl, pk_sub (by omega)]) (by simp only [m_len]; omega) ?_
    refine x_bipush (v := 127) C dX7_whole_17 (by decide) ?_
    refine x_icmp_le (tgt := 28) C dX7_whole_19 (by decide) (fun c19 => ?_) (fun c19 => ?_)
    · skip
      refine x_lconst (v := 0) C dX7_whole_28 (by decide) ?_
      first | exact T29 _ (if_neg (fun q => i0.mp c1 q.1)).symm | exact T29 _ (if_neg (fun q => c127.mp c19 q.2)).symm | exact T29 _ (if_pos ⟨m0, Classical.not_not.mp (fun q => c19 (c127.mpr q))⟩).symm
    · skip
      refine x_ldc2 C wk_X7_239 dX7_whole_22 ?_
      refine x_goto (tgt := 29) C dX7_whole_25 (by decide) ?_
      first | exact T29 _ (if_neg (fun q => i0.mp c1 q.1)).symm | exact T29 _ (if_neg (fun q => c127.mp c19 q.2)).symm | exact T29 _ (if_pos ⟨m0, Classical.not_not.mp (fun q => c19 (c127.mpr q))⟩).symm
end Num
