/-! MeterBusModel: frames put on the bus by the master; send. -/
theorem WFa.sa {S : MS} {k i : Nat} {v : Int32} (h : WFa S) (h15 : 15 ≠ k) (h14 : 14 ≠ k) (h17 : 17 ≠ k) : WFa (S.sa k i v) := fun j hj => (h j hj).sa h15 h14 h17
theorem WFa.si {S : MS} {k : Nat} {v : Int32} (h : WFa S) : WFa (S.si k v) := fun j hj => (h j hj).of rfl rfl (fun _ => rfl)
def f_putS0 (S : MS) (c : Int32) : MS := (((((S.sa 3 0 16).sa 3 1 c).sa 3 2 253).sa 3 3 ((c + 253) &&& 255)).sa 3 4 22).si 4 5
def f_putS (S : MS) (c : Int32) : MS := f_bus (f_putS0 S c) 5
def f_mcp (S : MS) : Nat → MS
  | 0 => S
  | n + 1 => (f_mcp S n).sa 3 (7 + n) (S.a 19 n)
def f_msum (S : MS) : Nat → Int32
  | 0 => 418
  | n + 1 => f_msum S n + S.a 19 n
def f_mhd (S : MS) : MS := ((((((S.sa 3 0 104).sa 3 1 11).sa 3 2 11).sa 3 3 104).sa 3 4 83).sa 3 5 253).sa 3 6 82
def f_putM0 (S : MS) : MS := (((f_mcp (f_mhd S) 8).sa 3 15 (f_msum (f_mhd S) 8 &&& 255)).sa 3 16 22).si 4 17
def f_putM (S : MS) : MS := f_bus (f_putM0 S) 17
theorem f_mcp_a (S : MS) (n : Nat) {q j : Nat} (h : q ≠ 3) : (f_mcp S n).a q j = S.a q j := by
  induction n with
  | zero => rfl
  | succ n ih => rw [f_mcp, sa_ne h, ih]
theorem WFa.mcp {S : MS} (h : WFa S) : ∀ n, WFa (f_mcp S n)
  | 0 => h
  | n + 1 => (h.mcp n).sa (by decide) (by decide) (by decide)
theorem WFa.mhd {S : MS} (h : WFa S) : WFa (f_mhd S) := ((((((h.sa (by decide) (by decide) (by decide)).sa (by decide) (by decide) (by decide)).sa (by decide) (by decide) (by decide)).sa (by decide) (by decide) (by decide)).sa (by decide) (by decide) (by decide)).sa (by decide) (by decide) (by decide)).sa (by decide) (by decide) (by decide)
theorem WFa.putM0 {S : MS} (h : WFa S) : WFa (f_putM0 S) := (((h.mhd.mcp 8).sa (by decide) (by decide) (by decide)).sa (by decide) (by decide) (by decide)).si
theorem WFa.putS0 {S : MS} {c : Int32} (h : WFa S) : WFa (f_putS0 S c) := (((((h.sa (by decide) (by decide) (by decide)).sa (by decide) (by decide) (by decide)).sa (by decide) (by decide) (by decide)).sa (by decide) (by decide) (by decide)).sa (by decide) (by decide) (by decide)).si
/-- n cells of array r copied to array q -/
def f_cp (S : MS) (q r : Nat) : Nat → MS
  | 0 => S
  | n + 1 => (f_cp S q r n).sa q n (S.a r n)
theorem f_cp_ne (S : MS) {q r : Nat} (n : Nat) {p j : Nat} (h : p ≠ q) : (f_cp S q r n).a p j = S.a p j := by
  induction n with
  | zero => rfl
  | succ n ih => rw [f_cp, sa_ne h, ih]
theorem f_cp_i (S : MS) {q r : Nat} (n k : Nat) : (f_cp S q r n).i k = S.i k := by
  induction n with
  | zero => rfl
  | succ n ih => rw [f_cp, MS.sa_i, ih]
theorem f_cp_eq (S : MS) {q r : Nat} (n j : Nat) : (f_cp S q r n).a q j = if j < n then S.a r j else S.a q j := by
  induction n with
  | zero => simp [f_cp]
  | succ n ih =>
    rw [f_cp, MS.sa_a, ih]
    by_cases h : j = n
    · subst h; simp
    · by_cases g : j < n
      · simp [h, g, Nat.lt_succ_of_lt g]
      · simp [h, g, show ¬ j < n + 1 by omega]
theorem WFa.cp {S : MS} {q r : Nat} (h : WFa S) (h15 : 15 ≠ q) (h14 : 14 ≠ q) (h17 : 17 ≠ q) : ∀ n, WFa (f_cp S q r n)
  | 0 => h
  | n + 1 => (h.cp h15 h14 h17 n).sa h15 h14 h17
section Put
variable {w : Wd} {M : MW} {S : MS}
theorem s_putShort (hW : Wm w M) (h : WFa S) (c : Int32) : TF w M yX7_putShort cX7_putShort 2 none 4 [.int c] S none (f_putS S c) := by
  refine TM.intro hW rfl (Nat.le_of_ble_eq_true rfl) (fun z C Y E hn => ?_)
  have hb := s_bus (S := f_putS0 S c) hW 5 rfl (by decide) h.putS0
  refine x_aload_n C dX7_putShort_0 rfl ?_
  refine m_getA C Y 3 (by decide) (by decide) wf_X7_13 dX7_putShort_1 ?_
  refine x_iconst (v := 0) C dX7_putShort_4 (by decide) ?_
  refine x_bipush (v := 16) C dX7_putShort_5 (by decide) ?_
  refine m_istN C Y hW.2.1 3 (0) (by decide) dX7_putShort_7 (by simp only [nI_lit, nI_add, pk_mul]) (by simp only [m_len]; omega) ?_
  refine x_aload_n C dX7_putShort_8 rfl ?_
  refine m_getA C Y 3 (by decide) (by decide) wf_X7_13 dX7_putShort_9 ?_
  refine x_iconst (v := 1) C dX7_putShort_12 (by decide) ?_
  refine x_iload_n C dX7_putShort_13 rfl ?_
  refine m_istN C Y hW.2.1 3 (1) (by decide) dX7_putShort_14 (by simp only [nI_lit, nI_add, pk_mul]) (by simp only [m_len]; omega) ?_
  refine x_aload_n C dX7_putShort_15 rfl ?_
  refine m_getA C Y 3 (by decide) (by decide) wf_X7_13 dX7_putShort_16 ?_
  refine x_iconst (v := 2) C dX7_putShort_19 (by decide) ?_
  refine x_sipush (v := 253) C dX7_putShort_20 (by decide) ?_
  refine m_istN C Y hW.2.1 3 (2) (by decide) dX7_putShort_23 (by simp only [nI_lit, nI_add, pk_mul]) (by simp only [m_len]; omega) ?_
  refine x_aload_n C dX7_putShort_24 rfl ?_
  refine m_getA C Y 3 (by decide) (by decide) wf_X7_13 dX7_putShort_25 ?_
  refine x_iconst (v := 3) C dX7_putShort_28 (by decide) ?_
  refine x_iload_n C dX7_putShort_29 rfl ?_
  refine x_sipush (v := 253) C dX7_putShort_30 (by decide) ?_
  refine x_iadd C dX7_putShort_33 ?_
  refine x_sipush (v := 255) C dX7_putShort_34 (by decide) ?_
  refine x_iand C dX7_putShort_37 ?_
  refine m_istN C Y hW.2.1 3 (3) (by decide) dX7_putShort_38 (by simp only [nI_lit, nI_add, pk_mul]) (by simp only [m_len]; omega) ?_
  refine x_aload_n C dX7_putShort_39 rfl ?_
  refine m_getA C Y 3 (by decide) (by decide) wf_X7_13 dX7_putShort_40 ?_
  refine x_iconst (v := 4) C dX7_putShort_43 (by decide) ?_
  refine x_bipush (v := 22) C dX7_putShort_44 (by decide) ?_
  refine m_istN C Y hW.2.1 3 (4) (by decide) dX7_putShort_46 (by simp only [nI_lit, nI_add, pk_mul]) (by simp only [m_len]; omega) ?_
  refine x_aload_n C dX7_putShort_47 rfl ?_
  refine x_iconst (v := 5) C dX7_putShort_48 (by decide) ?_
  refine m_put C Y hW.2.1 4 (by decide) (by decide) rfl rfl rfl wf_X7_126 dX7_putShort_49 ?_
  change X z 0 0 (MA M (f_putS0 S c)) 52 _ _
  refine x_aload_n C dX7_putShort_52 rfl ?_
  refine m_callF C Y hW E (hb) rfl md_X7_bus wi_X7_bus ws_X7_bus wm_X7_172 dX7_putShort_53 rfl (by decide) (by decide) rfl (by simp [Value.category]) ?_
  refine m_vret C E dX7_putShort_56 ?_
  exact ⟨rfl, rfl⟩
theorem s_putMask (hW : Wm w M) (h : WFa S) : TF w M yX7_putMask cX7_putMask 3 none 4 [] S none (f_putM S) := by
  refine TM.intro hW rfl (Nat.le_of_ble_eq_true rfl) (fun z C Y E hn => ?_)
  have hb := s_bus (S := f_putM0 S) hW 17 rfl (by decide) h.putM0
  have LP : ∀ (t b : Nat), b + t = 8 → X z 0 0 (MA M (f_mcp (f_mhd S) b)) 64 [some (.ref M.o), some (.int (f_msum (f_mhd S) b)), some (.int (nI b))] [] := by
    intro t
    induction t with
    | zero =>
      intro b hb8
      obtain rfl : b = 8 := by omega
      refine x_iload_n C dX7_putMask_64 rfl ?_
      refine x_bipush (v := 8) C dX7_putMask_65 (by decide) ?_
      refine x_icmp_ge (tgt := 100) C dX7_putMask_67 (by decide) (fun c67 => ?_) (fun c67 => absurd c67 (by decide))
      refine x_aload_n C dX7_putMask_100 rfl ?_
      refine m_getA C Y 3 (by decide) (by decide) wf_X7_13 dX7_putMask_101 ?_
      refine x_bipush (v := 15) C dX7_putMask_104 (by decide) ?_
      refine x_iload_n C dX7_putMask_106 rfl ?_
      refine x_sipush (v := 255) C dX7_putMask_107 (by decide) ?_
      refine x_iand C dX7_putMask_110 ?_
      refine m_istN C Y hW.2.1 3 (15) (by decide) dX7_putMask_111 (by simp only [nI_lit, nI_add, pk_mul]) (by simp only [m_len]; omega) ?_
      refine x_aload_n C dX7_putMask_112 rfl ?_
      refine m_getA C Y 3 (by decide) (by decide) wf_X7_13 dX7_putMask_113 ?_
      refine x_bipush (v := 16) C dX7_putMask_116 (by decide) ?_
      refine x_bipush (v := 22) C dX7_putMask_118 (by decide) ?_
      refine m_istN C Y hW.2.1 3 (16) (by decide) dX7_putMask_120 (by simp only [nI_lit, nI_add, pk_mul]) (by simp only [m_len]; omega) ?_
      refine x_aload_n C dX7_putMask_121 rfl ?_
      refine x_bipush (v := 17) C dX7_putMask_122 (by decide) ?_
      refine m_put C Y hW.2.1 4 (by decide) (by decide) rfl rfl rfl wf_X7_126 dX7_putMask_124 ?_
      change X z 0 0 (MA M (f_putM0 S)) 127 _ _
      refine x_aload_n C dX7_putMask_127 rfl ?_
      refine m_callF C Y hW E (hb) rfl md_X7_bus wi_X7_bus ws_X7_bus wm_X7_172 dX7_putMask_128 rfl (by decide) (by decide) rfl (by simp [Value.category]) ?_
      refine m_vret C E dX7_putMask_131 ?_
      exact ⟨rfl, rfl⟩
    | succ t ih =>
      intro b hb8
      have ih2 := ih (b + 1) (by omega)
      refine x_iload_n C dX7_putMask_64 rfl ?_
      refine x_bipush (v := 8) C dX7_putMask_65 (by decide) ?_
      refine x_icmp_ge (tgt := 100) C dX7_putMask_67 (by decide) (fun c67 => absurd c67 (by rw [nI_lit]; exact nI_ge (show b < 8 by omega) (by decide))) (fun c67 => ?_)
      refine x_aload_n C dX7_putMask_70 rfl ?_
      refine m_getA C Y 3 (by decide) (by decide) wf_X7_13 dX7_putMask_71 ?_
      refine x_bipush (v := 7) C dX7_putMask_74 (by decide) ?_
      refine x_iload_n C dX7_putMask_76 rfl ?_
      refine x_iadd C dX7_putMask_77 ?_
      refine x_aload_n C dX7_putMask_78 rfl ?_
      refine m_getA C Y 19 (by decide) (by decide) wf_X7_47 dX7_putMask_79 ?_
      refine x_iload_n C dX7_putMask_82 rfl ?_
      refine m_ildN C Y 19 (b) (by decide) dX7_putMask_83 (by simp only [nI_lit, nI_add, pk_mul]) (by simp only [m_len]; omega) ?_
      rw [f_mcp_a _ _ (by decide)]
      refine m_istN C Y hW.2.1 3 (7 + b) (by decide) dX7_putMask_84 (by simp only [nI_lit, nI_add, pk_mul]) (by simp only [m_len]; omega) ?_
      refine x_iload_n C dX7_putMask_85 rfl ?_
      refine x_aload_n C dX7_putMask_86 rfl ?_
      refine m_getA C Y 19 (by decide) (by decide) wf_X7_47 dX7_putMask_87 ?_
      refine x_iload_n C dX7_putMask_90 rfl ?_
      refine m_ildN C Y 19 (b) (by decide) dX7_putMask_91 (by simp only [nI_lit, nI_add, pk_mul]) (by simp only [m_len]; omega) ?_
      rw [sa_ne (by decide), f_mcp_a _ _ (by decide)]
      refine x_iadd C dX7_putMask_92 ?_
      refine x_istore_nE (L' := [some _, some _, some _]) C dX7_putMask_93 (by rw [hn]; decide) rfl ?_
      refine x_iincE (v := nI (b + 1)) (L' := [some _, some _, some _]) C dX7_putMask_94 rfl (nI_1 b) (by rw [hn]; decide) rfl ?_
      refine x_goto (tgt := 64) C dX7_putMask_97 (by decide) ?_
      exact ih2
  refine x_aload_n C dX7_putMask_0 rfl ?_
  refine m_getA C Y 3 (by decide) (by decide) wf_X7_13 dX7_putMask_1 ?_
  refine x_iconst (v := 0) C dX7_putMask_4 (by decide) ?_
  refine x_bipush (v := 104) C dX7_putMask_5 (by decide) ?_
  refine m_istN C Y hW.2.1 3 (0) (by decide) dX7_putMask_7 (by simp only [nI_lit, nI_add, pk_mul]) (by simp only [m_len]; omega) ?_
  refine x_aload_n C dX7_putMask_8 rfl ?_
  refine m_getA C Y 3 (by decide) (by decide) wf_X7_13 dX7_putMask_9 ?_
  refine x_iconst (v := 1) C dX7_putMask_12 (by decide) ?_
  refine x_bipush (v := 11) C dX7_putMask_13 (by decide) ?_
  refine m_istN C Y hW.2.1 3 (1) (by decide) dX7_putMask_15 (by simp only [nI_lit, nI_add, pk_mul]) (by simp only [m_len]; omega) ?_
  refine x_aload_n C dX7_putMask_16 rfl ?_
  refine m_getA C Y 3 (by decide) (by decide) wf_X7_13 dX7_putMask_17 ?_
  refine x_iconst (v := 2) C dX7_putMask_20 (by decide) ?_
  refine x_bipush (v := 11) C dX7_putMask_21 (by decide) ?_
  refine m_istN C Y hW.2.1 3 (2) (by decide) dX7_putMask_23 (by simp only [nI_lit, nI_add, pk_mul]) (by simp only [m_len]; omega) ?_
  refine x_aload_n C dX7_putMask_24 rfl ?_
  refine m_getA C Y 3 (by decide) (by decide) wf_X7_13 dX7_putMask_25 ?_
  refine x_iconst (v := 3) C dX7_putMask_28 (by decide) ?_
  refine x_bipush (v := 104) C dX7_putMask_29 (by decide) ?_
  refine m_istN C Y hW.2.1 3 (3) (by decide) dX7_putMask_31 (by simp only [nI_lit, nI_add, pk_mul]) (by simp only [m_len]; omega) ?_
  refine x_aload_n C dX7_putMask_32 rfl ?_
  refine m_getA C Y 3 (by decide) (by decide) wf_X7_13 dX7_putMask_33 ?_
  refine x_iconst (v := 4) C dX7_putMask_36 (by decide) ?_
  refine x_bipush (v := 83) C dX7_putMask_37 (by decide) ?_
  refine m_istN C Y hW.2.1 3 (4) (by decide) dX7_putMask_39 (by simp only [nI_lit, nI_add, pk_mul]) (by simp only [m_len]; omega) ?_
  refine x_aload_n C dX7_putMask_40 rfl ?_
  refine m_getA C Y 3 (by decide) (by decide) wf_X7_13 dX7_putMask_41 ?_
  refine x_iconst (v := 5) C dX7_putMask_44 (by decide) ?_
  refine x_sipush (v := 253) C dX7_putMask_45 (by decide) ?_
  refine m_istN C Y hW.2.1 3 (5) (by decide) dX7_putMask_48 (by simp only [nI_lit, nI_add, pk_mul]) (by simp only [m_len]; omega) ?_
  refine x_aload_n C dX7_putMask_49 rfl ?_
  refine m_getA C Y 3 (by decide) (by decide) wf_X7_13 dX7_putMask_50 ?_
  refine x_bipush (v := 6) C dX7_putMask_53 (by decide) ?_
  refine x_bipush (v := 82) C dX7_putMask_55 (by decide) ?_
  refine m_istN C Y hW.2.1 3 (6) (by decide) dX7_putMask_57 (by simp only [nI_lit, nI_add, pk_mul]) (by simp only [m_len]; omega) ?_
  refine x_sipush (v := 418) C dX7_putMask_58 (by decide) ?_
  refine x_istore_nE (L' := [some _, some _, none]) C dX7_putMask_61 (by rw [hn]; decide) rfl ?_
  refine x_iconst (v := 0) C dX7_putMask_62 (by decide) ?_
  refine x_istore_nE (L' := [some _, some _, some _]) C dX7_putMask_63 (by rw [hn]; decide) rfl ?_
  exact LP 8 0 rfl
end Put
