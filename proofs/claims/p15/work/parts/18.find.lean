/-! MeterBusModel: setPart, find. -/
def f_d (v : Int32) : Int32 := if v < 0 then 15 else v
def f_part (S : MS) (n : Nat) (v : Int32) : MS :=
  if 7 < n then S.sa 19 (n - 4) (if v < 0 then 255 else v)
  else S.sa 19 (3 - n / 2) (if n % 2 = 0 then (S.a 19 (3 - n / 2) &&& 15) ||| (f_d v <<< ((4 : Int32) &&& 31)) else (S.a 19 (3 - n / 2) &&& 240) ||| f_d v)
section Part
variable {w : Wd} {M : MW} {S : MS}
theorem s_setPart (hW : Wm w M) (n : Nat) (hn12 : n < 12) (v : Int32) : TF w M yX7_setPart cX7_setPart 5 none 0 [.int (nI n), .int v] S none (f_part S n v) := by
  refine TM.intro hW rfl (Nat.le_of_ble_eq_true rfl) (fun z C Y E hn => ?_)
  have i7 : nI n ≤ 7 ↔ ¬ 7 < n := by rw [show (7 : Int32) = nI 7 from rfl, nI_leI (by omega) (by omega)]; omega
  by_cases h7 : 7 < n
  · have e : f_part S n v = S.sa 19 (n - 4) (if v < 0 then 255 else v) := if_pos h7
    rw [e] at E
    refine x_iload_n C dX7_setPart_0 rfl ?_
    refine x_bipush (v := 7) C dX7_setPart_1 (by decide) ?_
    refine x_icmp_le (tgt := 26) C dX7_setPart_3 (by decide) (fun c3 => absurd c3 (fun q => i7.mp q h7)) (fun c3 => ?_)
    refine x_aload_n C dX7_setPart_6 rfl ?_
    refine m_getA C Y 19 (by decide) (by decide) wf_X7_47 dX7_setPart_7 ?_
    refine x_iload_n C dX7_setPart_10 rfl ?_
    refine x_iconst (v := 4) C dX7_setPart_11 (by decide) ?_
    refine x_isub C dX7_setPart_12 ?_
    refine x_iload_n C dX7_setPart_13 rfl ?_
    refine x_if_ge (tgt := 23) C dX7_setPart_14 (by decide) (fun c14 => ?_) (fun c14 => ?_)
    · skip
      refine x_iload_n C dX7_setPart_23 rfl ?_
      refine m_istN C Y hW.2.1 19 (n - 4) (by decide) dX7_setPart_24 (by rw [show (4 : Int32) = nI 4 from rfl, pk_sub (by omega)]) (by simp only [m_len]; omega) ?_
      refine m_vret C E dX7_setPart_25 ?_
      first | exact ⟨rfl, congrArg (fun t => S.sa 19 (n - 4) t) (if_neg (Int32.not_lt.mpr c14)).symm⟩ | exact ⟨rfl, congrArg (fun t => S.sa 19 (n - 4) t) (if_pos (Int32.not_le.mp c14)).symm⟩
    · skip
      refine x_sipush (v := 255) C dX7_setPart_17 (by decide) ?_
      refine x_goto (tgt := 24) C dX7_setPart_20 (by decide) ?_
      refine m_istN C Y hW.2.1 19 (n - 4) (by decide) dX7_setPart_24 (by rw [show (4 : Int32) = nI 4 from rfl, pk_sub (by omega)]) (by simp only [m_len]; omega) ?_
      refine m_vret C E dX7_setPart_25 ?_
      first | exact ⟨rfl, congrArg (fun t => S.sa 19 (n - 4) t) (if_neg (Int32.not_lt.mpr c14)).symm⟩ | exact ⟨rfl, congrArg (fun t => S.sa 19 (n - 4) t) (if_pos (Int32.not_le.mp c14)).symm⟩
  · have e : f_part S n v = S.sa 19 (3 - n / 2) (if n % 2 = 0 then (S.a 19 (3 - n / 2) &&& 15) ||| (f_d v <<< ((4 : Int32) &&& 31)) else (S.a 19 (3 - n / 2) &&& 240) ||| f_d v) := if_neg h7
    rw [e] at E
    have eb : (3 : Int32) - nI n / 2 = nI (3 - n / 2) := by rw [show (2 : Int32) = nI 2 from rfl, show (3 : Int32) = nI 3 from rfl, pk_div (by omega) (by decide) (by decide), pk_sub (by omega)]
    have er : nI n - nI n / 2 * 2 = nI (n % 2) := by rw [show (2 : Int32) = nI 2 from rfl, pk_rem (by omega) (by decide) (by decide)]
    have er0 : nI (n % 2) = 0 ↔ n % 2 = 0 := by rw [show (0 : Int32) = nI 0 from rfl, nI_eq (by omega) (by omega)]
    have T42 : ∀ d : Int32, d = f_d v → X z 0 0 (MA M S) 42 [some (.ref M.o), some (.int (nI n)), some (.int v), some (.int (nI (3 - n / 2))), none] [.int d] := by
      intro d ed
      subst ed
      refine x_istoreE (L' := [some _, some _, some _, some _, some _]) C dX7_setPart_42 (by rw [hn]; decide) rfl ?_
      refine x_aload_n C dX7_setPart_44 rfl ?_
      refine m_getA C Y 19 (by decide) (by decide) wf_X7_47 dX7_setPart_45 ?_
      refine x_iload_n C dX7_setPart_48 rfl ?_
      refine x_iload_n C dX7_setPart_49 rfl ?_
      refine x_iconst (v := 2) C dX7_setPart_50 (by decide) ?_
      refine x_irem C dX7_setPart_51 (by decide) ?_
      rw [er]
      refine x_if_ne (tgt := 72) C dX7_setPart_52 (by decide) (fun c52 => ?_) (fun c52 => ?_)
      · skip
        refine x_aload_n C dX7_setPart_72 rfl ?_
        refine m_getA C Y 19 (by decide) (by decide) wf_X7_47 dX7_setPart_73 ?_
        refine x_iload_n C dX7_setPart_76 rfl ?_
        refine m_ildN C Y 19 (3 - n / 2) (by decide) dX7_setPart_77 rfl (by simp only [m_len]; omega) ?_
        refine x_sipush (v := 240) C dX7_setPart_78 (by decide) ?_
        refine x_iand C dX7_setPart_81 ?_
        refine x_iload C dX7_setPart_82 rfl ?_
        refine x_ior C dX7_setPart_84 ?_
        refine m_istN C Y hW.2.1 19 (3 - n / 2) (by decide) dX7_setPart_85 rfl (by simp only [m_len]; omega) ?_
        refine m_vret C E dX7_setPart_86 ?_
        first | exact ⟨rfl, congrArg (fun t => S.sa 19 (3 - n / 2) t) (if_pos (er0.mp c52)).symm⟩ | exact ⟨rfl, congrArg (fun t => S.sa 19 (3 - n / 2) t) (if_neg (fun q => c52 (er0.mpr q))).symm⟩
      · skip
        refine x_aload_n C dX7_setPart_55 rfl ?_
        refine m_getA C Y 19 (by decide) (by decide) wf_X7_47 dX7_setPart_56 ?_
        refine x_iload_n C dX7_setPart_59 rfl ?_
        refine m_ildN C Y 19 (3 - n / 2) (by decide) dX7_setPart_60 rfl (by simp only [m_len]; omega) ?_
        refine x_bipush (v := 15) C dX7_setPart_61 (by decide) ?_
        refine x_iand C dX7_setPart_63 ?_
        refine x_iload C dX7_setPart_64 rfl ?_
        refine x_iconst (v := 4) C dX7_setPart_66 (by decide) ?_
        refine x_ishl C dX7_setPart_67 ?_
        refine x_ior C dX7_setPart_68 ?_
        refine x_goto (tgt := 85) C dX7_setPart_69 (by decide) ?_
        refine m_istN C Y hW.2.1 19 (3 - n / 2) (by decide) dX7_setPart_85 rfl (by simp only [m_len]; omega) ?_
        refine m_vret C E dX7_setPart_86 ?_
        first | exact ⟨rfl, congrArg (fun t => S.sa 19 (3 - n / 2) t) (if_pos (er0.mp c52)).symm⟩ | exact ⟨rfl, congrArg (fun t => S.sa 19 (3 - n / 2) t) (if_neg (fun q => c52 (er0.mpr q))).symm⟩
    refine x_iload_n C dX7_setPart_0 rfl ?_
    refine x_bipush (v := 7) C dX7_setPart_1 (by decide) ?_
    refine x_icmp_le (tgt := 26) C dX7_setPart_3 (by decide) (fun c3 => ?_) (fun c3 => absurd c3 (not_not_intro (i7.mpr h7)))
    refine x_iconst (v := 3) C dX7_setPart_26 (by decide) ?_
    refine x_iload_n C dX7_setPart_27 rfl ?_
    refine x_iconst (v := 2) C dX7_setPart_28 (by decide) ?_
    refine x_idiv C dX7_setPart_29 (by decide) ?_
    refine x_isub C dX7_setPart_30 ?_
    rw [eb]
    refine x_istore_nE (L' := [some _, some _, some _, some _, none]) C dX7_setPart_31 (by rw [hn]; decide) rfl ?_
    refine x_iload_n C dX7_setPart_32 rfl ?_
    refine x_if_ge (tgt := 41) C dX7_setPart_33 (by decide) (fun c33 => ?_) (fun c33 => ?_)
    · skip
      refine x_iload_n C dX7_setPart_41 rfl ?_
      first | exact T42 _ (if_neg (Int32.not_lt.mpr c33)).symm | exact T42 _ (if_pos (Int32.not_le.mp c33)).symm
    · skip
      refine x_bipush (v := 15) C dX7_setPart_36 (by decide) ?_
      refine x_goto (tgt := 42) C dX7_setPart_38 (by decide) ?_
      first | exact T42 _ (if_neg (Int32.not_lt.mpr c33)).symm | exact T42 _ (if_pos (Int32.not_le.mp c33)).symm
end Part
def f_find0 (S : MS) : MS := f_putS (f_putM (f_putS S 64)) 91
def f_fcp (S : MS) (f : Nat) : Nat → MS
  | 0 => S
  | n + 1 => (f_fcp S f n).sa 21 (8 * f + n) (S.a 5 (7 + n))
theorem f_fcp_a (S : MS) (f n : Nat) {q j : Nat} (h : q ≠ 21) : (f_fcp S f n).a q j = S.a q j := by
  induction n with
  | zero => rfl
  | succ n ih => rw [f_fcp, sa_ne h, ih]
theorem f_fcp_i (S : MS) (f n k : Nat) : (f_fcp S f n).i k = S.i k := by
  induction n with
  | zero => rfl
  | succ n ih => rw [f_fcp, MS.sa_i, ih]
def f_find (S : MS) (f : Nat) : MS := if (f_find0 S).i 7 = 1 then (f_fcp (f_find0 S) f 8).si 20 (nI (f + 1)) else f_find0 S
theorem WFa.putS {S : MS} {c : Int32} (h : WFa S) : WFa (f_putS S c) := h.putS0.bus 5
theorem WFa.putM {S : MS} (h : WFa S) : WFa (f_putM S) := h.putM0.bus 17
section Find
variable {w : Wd} {M : MW} {S : MS}
theorem s_find (hW : Wm w M) (h : WFa S) (f : Nat) (hf : f < 100) (e20 : (f_find0 S).i 20 = nI f) : TF w M yX7_find cX7_find 2 none 5 [] S none (f_find S f) := by
  refine TM.intro hW rfl (Nat.le_of_ble_eq_true rfl) (fun z C Y E hn => ?_)
  have h1 := s_putShort (S := S) hW h 64
  have h2 := s_putMask (S := f_putS S 64) hW h.putS
  have h3 := s_putShort (S := f_putM (f_putS S 64)) hW h.putS.putM 91
  have T16 : X z 0 0 (MA M (f_find0 S)) 16 [some (.ref M.o), none] [] := by
    unfold f_find at E
    generalize f_find0 S = S2 at E e20 ⊢
    by_cases g : S2.i 7 = 1
    · rw [if_pos g] at E
      have ei : ∀ b, (f_fcp S2 f b).i 20 = nI f := fun b => by rw [f_fcp_i]; exact e20
      have LP : ∀ (t b : Nat), b + t = 8 → X z 0 0 (MA M (f_fcp S2 f b)) 26 [some (.ref M.o), some (.int (nI b))] [] := by
        intro t
        induction t with
        | zero =>
          intro b hb
          obtain rfl : b = 8 := by omega
          refine x_iload_n C dX7_find_26 rfl ?_
          refine x_bipush (v := 8) C dX7_find_27 (by decide) ?_
          refine x_icmp_ge (tgt := 61) C dX7_find_29 (by decide) (fun c29 => ?_) (fun c29 => absurd c29 (by decide))
          refine x_aload_n C dX7_find_61 rfl ?_
          refine x_dup C dX7_find_62 rfl ?_
          refine m_get C Y 20 (by decide) (by decide) wf_X7_175 dX7_find_63 ?_
          rw [ei]
          refine x_iconst (v := 1) C dX7_find_66 (by decide) ?_
          refine x_iadd C dX7_find_67 ?_
          rw [nI_1]
          refine m_put C Y hW.2.1 20 (by decide) (by decide) rfl rfl rfl wf_X7_175 dX7_find_68 ?_
          refine m_vret C E dX7_find_71 ?_
          exact ⟨rfl, rfl⟩
        | succ t ih =>
          intro b hb
          have ih2 := ih (b + 1) (by omega)
          refine x_iload_n C dX7_find_26 rfl ?_
          refine x_bipush (v := 8) C dX7_find_27 (by decide) ?_
          refine x_icmp_ge (tgt := 61) C dX7_find_29 (by decide) (fun c29 => absurd c29 (by rw [nI_lit]; exact nI_ge (show b < 8 by omega) (by decide))) (fun c29 => ?_)
          refine x_aload_n C dX7_find_32 rfl ?_
          refine m_getA C Y 21 (by decide) (by decide) wf_X7_50 dX7_find_33 ?_
          refine x_bipush (v := 8) C dX7_find_36 (by decide) ?_
          refine x_aload_n C dX7_find_38 rfl ?_
          refine m_get C Y 20 (by decide) (by decide) wf_X7_175 dX7_find_39 ?_
          rw [ei]
          refine x_imul C dX7_find_42 ?_
          refine x_iload_n C dX7_find_43 rfl ?_
          refine x_iadd C dX7_find_44 ?_
          refine x_aload_n C dX7_find_45 rfl ?_
          refine m_getA C Y 5 (by decide) (by decide) wf_X7_16 dX7_find_46 ?_
          refine x_bipush (v := 7) C dX7_find_49 (by decide) ?_
          refine x_iload_n C dX7_find_51 rfl ?_
          refine x_iadd C dX7_find_52 ?_
          refine m_ildN C Y 5 (7 + b) (by decide) dX7_find_53 (by simp only [nI_lit, nI_add, pk_mul]) (by simp only [m_len]; omega) ?_
          rw [f_fcp_a _ _ _ (by decide)]
          refine m_istN C Y hW.2.1 21 (8 * f + b) (by decide) dX7_find_54 (by simp only [nI_lit, nI_add, pk_mul]) (by simp only [m_len]; omega) ?_
          refine x_iincE (v := nI (b + 1)) (L' := [some _, some _]) C dX7_find_55 rfl (nI_1 b) (by rw [hn]; decide) rfl ?_
          refine x_goto (tgt := 26) C dX7_find_58 (by decide) ?_
          exact ih2
      refine x_aload_n C dX7_find_16 rfl ?_
      refine m_get C Y 7 (by decide) (by decide) wf_X7_132 dX7_find_17 ?_
      refine x_iconst (v := 1) C dX7_find_20 (by decide) ?_
      refine x_icmp_ne (tgt := 71) C dX7_find_21 (by decide) (fun c21 => absurd c21 (not_not_intro g)) (fun c21 => ?_)
      refine x_iconst (v := 0) C dX7_find_24 (by decide) ?_
      refine x_istore_nE (L' := [some _, some _]) C dX7_find_25 (by rw [hn]; decide) rfl ?_
      exact LP 8 0 rfl
    · rw [if_neg g] at E
      refine x_aload_n C dX7_find_16 rfl ?_
      refine m_get C Y 7 (by decide) (by decide) wf_X7_132 dX7_find_17 ?_
      refine x_iconst (v := 1) C dX7_find_20 (by decide) ?_
      refine x_icmp_ne (tgt := 71) C dX7_find_21 (by decide) (fun c21 => ?_) (fun c21 => absurd c21 (fun q => g q))
      refine m_vret C E dX7_find_71 ?_
      exact ⟨rfl, rfl⟩
  refine x_aload_n C dX7_find_0 rfl ?_
  refine x_bipush (v := 64) C dX7_find_1 (by decide) ?_
  refine m_callF C Y hW E (h1) rfl md_X7_putShort wi_X7_putShort ws_X7_putShort wm_X7_187 dX7_find_3 rfl (by decide) (by decide) rfl (by simp [Value.category]) ?_
  refine x_aload_n C dX7_find_6 rfl ?_
  refine m_callF C Y hW E (h2) rfl md_X7_putMask wi_X7_putMask ws_X7_putMask wm_X7_178 dX7_find_7 rfl (by decide) (by decide) rfl (by simp [Value.category]) ?_
  refine x_aload_n C dX7_find_10 rfl ?_
  refine x_bipush (v := 91) C dX7_find_11 (by decide) ?_
  refine m_callF C Y hW E (h3) rfl md_X7_putShort wi_X7_putShort ws_X7_putShort wm_X7_187 dX7_find_13 rfl (by decide) (by decide) rfl (by simp [Value.category]) ?_
  exact T16
end Find
