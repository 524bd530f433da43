/-! MeterBusModel: rows with an index told as a number; the bus. -/
theorem nI_lit (n : Nat) : (OfNat.ofNat n : Int32) = nI n := rfl
section Rows
variable {z : Fx} {cc : ByteArray} {kc ks pc : Nat} {L : List (Option Value)} {st : List Value} {M : MW} {S : MS}
theorem m_ln {k j : Nat} (hj : j < m_len k) : j < 2 ^ 31 := by
  have : m_len k ≤ 26000 := by unfold m_len; split <;> decide
  omega
theorem m_li {k j : Nat} (hj : j < m_len k) : vp_in (nI j) (m_len k) := by
  have : m_len k ≤ 26000 := by unfold m_len; split <;> decide
  exact vp_in_nI hj (by omega)
theorem m_ildN (C : Cx z RX7 cc gw) (Y : Mty z M) (k j : Nat) {i : Int32} (g : m_kd k = 1) (d : decode cc pc = .ok (.iaload, 1)) (e : i = nI j) (hj : j < m_len k)
    (kk : X z kc ks (MA M S) (pc + 1) L (.int (S.a k j) :: st)) : X z kc ks (MA M S) pc L (.int i :: .ref (M.ad k) :: st) := by
  subst e
  exact m_ild C Y k g d (m_li hj) (by rw [nI_clamp (m_ln hj)]; exact kk)
theorem m_zldN (C : Cx z RX7 cc gw) (Y : Mty z M) (k j : Nat) {i : Int32} (g : m_kd k = 2) (d : decode cc pc = .ok (.baload, 1)) (e : i = nI j) (hj : j < m_len k)
    (kk : X z kc ks (MA M S) (pc + 1) L (.int (S.a k j) :: st)) : X z kc ks (MA M S) pc L (.int i :: .ref (M.ad k) :: st) := by
  subst e
  exact m_zld C Y k g d (m_li hj) (by rw [nI_clamp (m_ln hj)]; exact kk)
theorem m_lldN (C : Cx z RX7 cc gw) (Y : Mty z M) (k j : Nat) {i : Int32} (g : m_kd k = 3) (d : decode cc pc = .ok (.laload, 1)) (e : i = nI j) (hj : j < m_len k)
    (kk : X z kc ks (MA M S) (pc + 1) L (.long (S.w k j) :: st)) : X z kc ks (MA M S) pc L (.int i :: .ref (M.ad k) :: st) := by
  subst e
  exact m_lld C Y k g d (m_li hj) (by rw [nI_clamp (m_ln hj)]; exact kk)
theorem m_istN (C : Cx z RX7 cc gw) (Y : Mty z M) (ok : M.ok) (k j : Nat) {i x : Int32} (g : m_kd k = 1) (d : decode cc pc = .ok (.iastore, 1)) (e : i = nI j) (hj : j < m_len k)
    (kk : X z kc ks (MA M (S.sa k j x)) (pc + 1) L st) : X z kc ks (MA M S) pc L (.int x :: .int i :: .ref (M.ad k) :: st) := by
  subst e
  exact m_ist C Y ok k g d (m_li hj) (by rw [nI_clamp (m_ln hj)]; exact kk)
theorem m_zstN (C : Cx z RX7 cc gw) (Y : Mty z M) (ok : M.ok) (k j : Nat) {i x : Int32} (g : m_kd k = 2) (hx : vp_nar .boolean x = x) (d : decode cc pc = .ok (.bastore, 1)) (e : i = nI j) (hj : j < m_len k)
    (kk : X z kc ks (MA M (S.sa k j x)) (pc + 1) L st) : X z kc ks (MA M S) pc L (.int x :: .int i :: .ref (M.ad k) :: st) := by
  subst e
  exact m_zst C Y ok k g hx d (m_li hj) (by rw [nI_clamp (m_ln hj)]; exact kk)
theorem m_lstN (C : Cx z RX7 cc gw) (Y : Mty z M) (ok : M.ok) (k j : Nat) {i : Int32} {x : Int64} (g : m_kd k = 3) (d : decode cc pc = .ok (.lastore, 1)) (e : i = nI j) (hj : j < m_len k)
    (kk : X z kc ks (MA M (S.sw k j x)) (pc + 1) L st) : X z kc ks (MA M S) pc L (.long x :: .int i :: .ref (M.ad k) :: st) := by
  subst e
  exact m_lst C Y ok k g d (m_li hj) (by rw [nI_clamp (m_ln hj)]; exact kk)
end Rows
theorem bI_vt {p : Prop} [Decidable p] (h : p) : some (Value.int 1) = some (Value.int (bI p)) := by rw [bI_t h]
theorem bI_vf {p : Prop} [Decidable p] (h : ¬ p) : some (Value.int 0) = some (Value.int (bI p)) := by rw [bI_f h]
theorem bI_nar {p : Prop} [Decidable p] : vp_nar .boolean (bI p) = bI p := by
  by_cases h : p
  · rw [bI_t h]; rfl
  · rw [bI_f h]; rfl
theorem bI_1 {p : Prop} [Decidable p] (h : p) : (1 : Int32) = bI p := (bI_t h).symm
theorem bI_00 {p : Prop} [Decidable p] (h : ¬ p) : (0 : Int32) = bI p := (bI_f h).symm
def f_ack (S : MS) : MS := ((S.si 7 (S.i 7 + 1)).sa 5 0 229).si 6 1
def f_forget (S : MS) (k : Nat) : MS := (S.sa 15 k (-1)).sa 14 k (-1)
/-- byte b of the mask in the frame fits meter k's -/
def f_fit (S : MS) (k b : Nat) : Bool := if b < 4 then (decide (S.a 3 (7 + b) &&& 15 = 15) || decide (S.a 3 (7 + b) &&& 15 = S.a 12 (8 * k + b) &&& 15)) && (decide (S.a 3 (7 + b) >>> ((4 : Int32) &&& 31) = 15) || decide (S.a 3 (7 + b) >>> ((4 : Int32) &&& 31) = S.a 12 (8 * k + b) >>> ((4 : Int32) &&& 31))) else (decide (S.a 3 (7 + b) = 255) || decide (S.a 3 (7 + b) = S.a 12 (8 * k + b)))
theorem f_fit_lo {S : MS} {k b : Nat} (h : b < 4) : f_fit S k b = true ↔ (S.a 3 (7 + b) &&& 15 = 15 ∨ S.a 3 (7 + b) &&& 15 = S.a 12 (8 * k + b) &&& 15) ∧ (S.a 3 (7 + b) >>> ((4 : Int32) &&& 31) = 15 ∨ S.a 3 (7 + b) >>> ((4 : Int32) &&& 31) = S.a 12 (8 * k + b) >>> ((4 : Int32) &&& 31)) := by
  unfold f_fit
  rw [if_pos h]
  simp only [Bool.and_eq_true, Bool.or_eq_true, decide_eq_true_eq]
theorem f_fit_hi {S : MS} {k b : Nat} (h : ¬ b < 4) : f_fit S k b = true ↔ (S.a 3 (7 + b) = 255 ∨ S.a 3 (7 + b) = S.a 12 (8 * k + b)) := by
  unfold f_fit
  rw [if_neg h]
  simp only [Bool.or_eq_true, decide_eq_true_eq]
def f_all (S : MS) (k n : Nat) : Bool := (List.range n).all (f_fit S k)
theorem f_all_s {S : MS} {k n : Nat} : f_all S k (n + 1) = true ↔ f_all S k n = true ∧ f_fit S k n = true := by
  simp [f_all, List.range_succ]
def f_sel (S : MS) (k : Nat) : MS := if f_all S k 8 = true then f_ack (S.sa 13 k 1) else S.sa 13 k 0
def f_long (S : MS) (k : Nat) : MS := if S.a 3 6 = 80 ∧ S.a 3 1 = 3 then f_ack (f_forget S k) else if S.a 3 6 = 81 ∧ S.a 3 1 = 6 ∧ S.a 3 7 = 1 ∧ S.a 3 8 = 122 ∧ S.a 3 9 ≤ 250 then f_ack (S.sa 11 k (S.a 3 9)) else S
section Small
variable {w : Wd} {M : MW} {S : MS}
theorem s_ack (hW : Wm w M) : TF w M yX7_acknowledge cX7_acknowledge 1 none 0 [] S none (f_ack S) := by
  refine TM.intro hW rfl (Nat.le_of_ble_eq_true rfl) (fun z C Y E hn => ?_)
  refine x_aload_n C dX7_acknowledge_0 rfl ?_
  refine x_dup C dX7_acknowledge_1 rfl ?_
  refine m_get C Y 7 (by decide) (by decide) wf_X7_132 dX7_acknowledge_2 ?_
  refine x_iconst (v := 1) C dX7_acknowledge_5 (by decide) ?_
  refine x_iadd C dX7_acknowledge_6 ?_
  refine m_put C Y hW.2.1 7 (by decide) (by decide) rfl rfl rfl wf_X7_132 dX7_acknowledge_7 ?_
  refine x_aload_n C dX7_acknowledge_10 rfl ?_
  refine m_getA C Y 5 (by decide) (by decide) wf_X7_16 dX7_acknowledge_11 ?_
  refine x_iconst (v := 0) C dX7_acknowledge_14 (by decide) ?_
  refine x_sipush (v := 229) C dX7_acknowledge_15 (by decide) ?_
  refine m_istN C Y hW.2.1 5 (0) (by decide) dX7_acknowledge_18 (by simp only [nI_lit, nI_add, pk_mul]) (by simp only [m_len]; omega) ?_
  refine x_aload_n C dX7_acknowledge_19 rfl ?_
  refine x_iconst (v := 1) C dX7_acknowledge_20 (by decide) ?_
  refine m_put C Y hW.2.1 6 (by decide) (by decide) rfl rfl rfl wf_X7_135 dX7_acknowledge_21 ?_
  refine m_vret C E dX7_acknowledge_24 ?_
  exact ⟨rfl, rfl⟩
theorem s_forget (hW : Wm w M) (k : Nat) (hk : k < 12) : TF w M yX7_forget cX7_forget 2 none 0 [.int (nI k)] S none (f_forget S k) := by
  refine TM.intro hW rfl (Nat.le_of_ble_eq_true rfl) (fun z C Y E hn => ?_)
  refine x_aload_n C dX7_forget_0 rfl ?_
  refine m_getA C Y 15 (by decide) (by decide) wf_X7_35 dX7_forget_1 ?_
  refine x_iload_n C dX7_forget_4 rfl ?_
  refine x_iconst (v := (-1)) C dX7_forget_5 (by decide) ?_
  refine m_istN C Y hW.2.1 15 (k) (by decide) dX7_forget_6 (by simp only [nI_lit, nI_add, pk_mul]) (by simp only [m_len]; omega) ?_
  refine x_aload_n C dX7_forget_7 rfl ?_
  refine m_getA C Y 14 (by decide) (by decide) wf_X7_32 dX7_forget_8 ?_
  refine x_iload_n C dX7_forget_11 rfl ?_
  refine x_iconst (v := (-1)) C dX7_forget_12 (by decide) ?_
  refine m_istN C Y hW.2.1 14 (k) (by decide) dX7_forget_13 (by simp only [nI_lit, nI_add, pk_mul]) (by simp only [m_len]; omega) ?_
  refine m_vret C E dX7_forget_14 ?_
  exact ⟨rfl, rfl⟩
theorem s_isMeter (hW : Wm w M) (k : Int32) : TF w M yX7_isMeter cX7_isMeter 2 (some .boolean) 1 [.int k] S (some (.int (bI ((0 ≤ k ∧ k ≤ 11) ∧ ¬ S.a 10 k.toNatClampNeg = 0)))) S := by
  refine TM.intro hW rfl (Nat.le_of_ble_eq_true rfl) (fun z C Y E hn => ?_)
  refine x_iload_n C dX7_isMeter_0 rfl ?_
  refine x_iconst (v := 0) C dX7_isMeter_1 (by decide) ?_
  refine x_bipush (v := 11) C dX7_isMeter_2 (by decide) ?_
  refine m_callSF C hW E (s_in _ _ _) md_X7_in wt_X7_in wm_X7_100 dX7_isMeter_4 rfl (by decide) (by decide) rfl (by simp [Value.category]) ?_
  refine x_if_eq (tgt := 23) C dX7_isMeter_7 (by decide) (fun c7 => ?_) (fun c7 => ?_)
  · skip
    refine x_iconst (v := 0) C dX7_isMeter_23 (by decide) ?_
    refine m_zret C E dX7_isMeter_24 (by decide) ?_
    first | exact ⟨bI_vf (fun g => bI_0.mp c7 g.1), rfl⟩ | exact ⟨bI_vf (fun g => g.2 c16), rfl⟩ | exact ⟨bI_vt ⟨bI_0n.mp c7, c16⟩, rfl⟩
  · skip
    refine x_aload_n C dX7_isMeter_10 rfl ?_
    refine m_getA C Y 10 (by decide) (by decide) wf_X7_19 dX7_isMeter_11 ?_
    refine x_iload_n C dX7_isMeter_14 rfl ?_
    refine m_zld C Y 10 (by decide) dX7_isMeter_15 (by have := bI_0n.mp c7; exact vp_in_iff.mpr (by simp only [Int32.le_iff_toInt_le] at this; exact ⟨this.1, Int.lt_of_le_of_lt this.2 (by decide)⟩)) ?_
    refine x_if_eq (tgt := 23) C dX7_isMeter_16 (by decide) (fun c16 => ?_) (fun c16 => ?_)
    · skip
      refine x_iconst (v := 0) C dX7_isMeter_23 (by decide) ?_
      refine m_zret C E dX7_isMeter_24 (by decide) ?_
      first | exact ⟨bI_vf (fun g => bI_0.mp c7 g.1), rfl⟩ | exact ⟨bI_vf (fun g => g.2 c16), rfl⟩ | exact ⟨bI_vt ⟨bI_0n.mp c7, c16⟩, rfl⟩
    · skip
      refine x_iconst (v := 1) C dX7_isMeter_19 (by decide) ?_
      refine x_goto (tgt := 24) C dX7_isMeter_20 (by decide) ?_
      refine m_zret C E dX7_isMeter_24 (by decide) ?_
      first | exact ⟨bI_vf (fun g => bI_0.mp c7 g.1), rfl⟩ | exact ⟨bI_vf (fun g => g.2 c16), rfl⟩ | exact ⟨bI_vt ⟨bI_0n.mp c7, c16⟩, rfl⟩
/-- select(k)'s loop -/
theorem s_sel_loop (hW : Wm w M) {k : Nat} (hk : k < 12) {post : Option Value → MS → Prop} {z : Fx} (C : Cx z RX7 cX7_select gw) (Y : Mty z M) (E : Ct z w gw yX7_select none 1 (40 * 1) (PM M post)) (hn : z.nL = 6)
    (kk : ∀ l4 l5 : Option Value, X z 0 0 (MA M S) 126 [some (.ref M.o), some (.int (nI k)), some (.int (bI (f_all S k 8 = true))), some (.int (nI 8)), l4, l5] []) :
    ∀ (n b : Nat) (v : Int32) (l4 l5 : Option Value), b + n = 8 → v = bI (f_all S k b = true) → X z 0 0 (MA M S) 4 [some (.ref M.o), some (.int (nI k)), some (.int v), some (.int (nI b)), l4, l5] [] := by
  intro n
  induction n with
  | zero =>
    intro b v l4 l5 hb hv
    obtain rfl : b = 8 := by omega
    subst hv
    refine x_iload_n C dX7_select_4 rfl ?_
    refine x_bipush (v := 8) C dX7_select_5 (by decide) ?_
    refine x_icmp_ge (tgt := 126) C dX7_select_7 (by decide) (fun c7 => ?_) (fun c7 => absurd c7 (by decide))
    exact kk l4 l5
  | succ n ih =>
    intro b v l4 l5 hb hv
    refine x_iload_n C dX7_select_4 rfl ?_
    refine x_bipush (v := 8) C dX7_select_5 (by decide) ?_
    refine x_icmp_ge (tgt := 126) C dX7_select_7 (by decide) (fun c7 => absurd c7 (by rw [nI_lit]; exact nI_ge (show b < 8 by omega) (by decide))) (fun c7 => ?_)
    refine x_aload_n C dX7_select_10 rfl ?_
    refine m_getA C Y 3 (by decide) (by decide) wf_X7_13 dX7_select_11 ?_
    refine x_bipush (v := 7) C dX7_select_14 (by decide) ?_
    refine x_iload_n C dX7_select_16 rfl ?_
    refine x_iadd C dX7_select_17 ?_
    refine m_ildN C Y 3 (7 + b) (by decide) dX7_select_18 (by simp only [nI_lit, nI_add, pk_mul]) (by simp only [m_len]; omega) ?_
    refine x_istoreE (L' := [some _, some _, some _, some _, some _, _]) C dX7_select_19 (by rw [hn]; decide) rfl ?_
    refine x_aload_n C dX7_select_21 rfl ?_
    refine m_getA C Y 12 (by decide) (by decide) wf_X7_26 dX7_select_22 ?_
    refine x_bipush (v := 8) C dX7_select_25 (by decide) ?_
    refine x_iload_n C dX7_select_27 rfl ?_
    refine x_imul C dX7_select_28 ?_
    refine x_iload_n C dX7_select_29 rfl ?_
    refine x_iadd C dX7_select_30 ?_
    refine m_ildN C Y 12 (8 * k + b) (by decide) dX7_select_31 (by simp only [nI_lit, nI_add, pk_mul]) (by simp only [m_len]; omega) ?_
    refine x_istoreE (L' := [some _, some _, some _, some _, some _, some _]) C dX7_select_32 (by rw [hn]; decide) rfl ?_
    refine x_iload_n C dX7_select_34 rfl ?_
    refine x_iconst (v := 4) C dX7_select_35 (by decide) ?_
    refine x_icmp_ge (tgt := 95) C dX7_select_36 (by decide) (fun c36 => ?_) (fun c36 => ?_)
    · skip
      have hb4 : ¬ b < 4 := fun q => nI_ge q (by decide) c36; have hff := f_fit_hi (S := S) (k := k) hb4
      refine x_iload_n C dX7_select_95 rfl ?_
      refine x_if_eq (tgt := 118) C dX7_select_96 (by decide) (fun c96 => ?_) (fun c96 => ?_)
      · skip
        refine x_iconst (v := 0) C dX7_select_118 (by decide) ?_
        refine x_istore_nE (L' := [some _, some _, some _, some _, some _, some _]) C dX7_select_119 (by rw [hn]; decide) rfl ?_
        refine x_iincE (v := nI (b + 1)) (L' := [some _, some _, some _, some _, some _, some _]) C dX7_select_120 rfl (nI_1 b) (by rw [hn]; decide) rfl ?_
        refine x_goto (tgt := 4) C dX7_select_123 (by decide) ?_
        refine ih (b + 1) _ _ _ (by omega) ?_; clear ih kk C Y E; subst hv; simp only [bI_0, Classical.not_not] at *; first | (refine bI_1 (p := f_all S k (b + 1) = true) (f_all_s.mpr ⟨by assumption, hff.mpr ?_⟩); grind) | (refine bI_00 (p := f_all S k (b + 1) = true) (fun g => ?_); have g := f_all_s.mp g; rw [hff] at g; grind)
      · skip
        refine x_iload C dX7_select_99 rfl ?_
        refine x_sipush (v := 255) C dX7_select_101 (by decide) ?_
        refine x_icmp_eq (tgt := 114) C dX7_select_104 (by decide) (fun c104 => ?_) (fun c104 => ?_)
        · skip
          refine x_iconst (v := 1) C dX7_select_114 (by decide) ?_
          refine x_goto (tgt := 119) C dX7_select_115 (by decide) ?_
          refine x_istore_nE (L' := [some _, some _, some _, some _, some _, some _]) C dX7_select_119 (by rw [hn]; decide) rfl ?_
          refine x_iincE (v := nI (b + 1)) (L' := [some _, some _, some _, some _, some _, some _]) C dX7_select_120 rfl (nI_1 b) (by rw [hn]; decide) rfl ?_
          refine x_goto (tgt := 4) C dX7_select_123 (by decide) ?_
          refine ih (b + 1) _ _ _ (by omega) ?_; clear ih kk C Y E; subst hv; simp only [bI_0, Classical.not_not] at *; first | (refine bI_1 (p := f_all S k (b + 1) = true) (f_all_s.mpr ⟨by assumption, hff.mpr ?_⟩); grind) | (refine bI_00 (p := f_all S k (b + 1) = true) (fun g => ?_); have g := f_all_s.mp g; rw [hff] at g; grind)
        · skip
          refine x_iload C dX7_select_107 rfl ?_
          refine x_iload C dX7_select_109 rfl ?_
          refine x_icmp_ne (tgt := 118) C dX7_select_111 (by decide) (fun c111 => ?_) (fun c111 => ?_)
          · skip
            refine x_iconst (v := 0) C dX7_select_118 (by decide) ?_
            refine x_istore_nE (L' := [some _, some _, some _, some _, some _, some _]) C dX7_select_119 (by rw [hn]; decide) rfl ?_
            refine x_iincE (v := nI (b + 1)) (L' := [some _, some _, some _, some _, some _, some _]) C dX7_select_120 rfl (nI_1 b) (by rw [hn]; decide) rfl ?_
            refine x_goto (tgt := 4) C dX7_select_123 (by decide) ?_
            refine ih (b + 1) _ _ _ (by omega) ?_; clear ih kk C Y E; subst hv; simp only [bI_0, Classical.not_not] at *; first | (refine bI_1 (p := f_all S k (b + 1) = true) (f_all_s.mpr ⟨by assumption, hff.mpr ?_⟩); grind) | (refine bI_00 (p := f_all S k (b + 1) = true) (fun g => ?_); have g := f_all_s.mp g; rw [hff] at g; grind)
          · skip
            refine x_iconst (v := 1) C dX7_select_114 (by decide) ?_
            refine x_goto (tgt := 119) C dX7_select_115 (by decide) ?_
            refine x_istore_nE (L' := [some _, some _, some _, some _, some _, some _]) C dX7_select_119 (by rw [hn]; decide) rfl ?_
            refine x_iincE (v := nI (b + 1)) (L' := [some _, some _, some _, some _, some _, some _]) C dX7_select_120 rfl (nI_1 b) (by rw [hn]; decide) rfl ?_
            refine x_goto (tgt := 4) C dX7_select_123 (by decide) ?_
            refine ih (b + 1) _ _ _ (by omega) ?_; clear ih kk C Y E; subst hv; simp only [bI_0, Classical.not_not] at *; first | (refine bI_1 (p := f_all S k (b + 1) = true) (f_all_s.mpr ⟨by assumption, hff.mpr ?_⟩); grind) | (refine bI_00 (p := f_all S k (b + 1) = true) (fun g => ?_); have g := f_all_s.mp g; rw [hff] at g; grind)
    · skip
      have hb4 : b < 4 := (by rcases Nat.lt_or_ge b 4 with q | q; exact q; exact absurd (nI_le q (by omega)) c36); have hff := f_fit_lo (S := S) (k := k) hb4
      refine x_iload_n C dX7_select_39 rfl ?_
      refine x_if_eq (tgt := 90) C dX7_select_40 (by decide) (fun c40 => ?_) (fun c40 => ?_)
      · skip
        refine x_iconst (v := 0) C dX7_select_90 (by decide) ?_
        refine x_istore_nE (L' := [some _, some _, some _, some _, some _, some _]) C dX7_select_91 (by rw [hn]; decide) rfl ?_
        refine x_goto (tgt := 120) C dX7_select_92 (by decide) ?_
        refine x_iincE (v := nI (b + 1)) (L' := [some _, some _, some _, some _, some _, some _]) C dX7_select_120 rfl (nI_1 b) (by rw [hn]; decide) rfl ?_
        refine x_goto (tgt := 4) C dX7_select_123 (by decide) ?_
        refine ih (b + 1) _ _ _ (by omega) ?_; clear ih kk C Y E; subst hv; simp only [bI_0, Classical.not_not] at *; first | (refine bI_1 (p := f_all S k (b + 1) = true) (f_all_s.mpr ⟨by assumption, hff.mpr ?_⟩); grind) | (refine bI_00 (p := f_all S k (b + 1) = true) (fun g => ?_); have g := f_all_s.mp g; rw [hff] at g; grind)
      · skip
        refine x_iload C dX7_select_43 rfl ?_
        refine x_bipush (v := 15) C dX7_select_45 (by decide) ?_
        refine x_iand C dX7_select_47 ?_
        refine x_bipush (v := 15) C dX7_select_48 (by decide) ?_
        refine x_icmp_eq (tgt := 66) C dX7_select_50 (by decide) (fun c50 => ?_) (fun c50 => ?_)
        · skip
          refine x_iload C dX7_select_66 rfl ?_
          refine x_iconst (v := 4) C dX7_select_68 (by decide) ?_
          refine x_ishr C dX7_select_69 ?_
          refine x_bipush (v := 15) C dX7_select_70 (by decide) ?_
          refine x_icmp_eq (tgt := 86) C dX7_select_72 (by decide) (fun c72 => ?_) (fun c72 => ?_)
          · skip
            refine x_iconst (v := 1) C dX7_select_86 (by decide) ?_
            refine x_goto (tgt := 91) C dX7_select_87 (by decide) ?_
            refine x_istore_nE (L' := [some _, some _, some _, some _, some _, some _]) C dX7_select_91 (by rw [hn]; decide) rfl ?_
            refine x_goto (tgt := 120) C dX7_select_92 (by decide) ?_
            refine x_iincE (v := nI (b + 1)) (L' := [some _, some _, some _, some _, some _, some _]) C dX7_select_120 rfl (nI_1 b) (by rw [hn]; decide) rfl ?_
            refine x_goto (tgt := 4) C dX7_select_123 (by decide) ?_
            refine ih (b + 1) _ _ _ (by omega) ?_; clear ih kk C Y E; subst hv; simp only [bI_0, Classical.not_not] at *; first | (refine bI_1 (p := f_all S k (b + 1) = true) (f_all_s.mpr ⟨by assumption, hff.mpr ?_⟩); grind) | (refine bI_00 (p := f_all S k (b + 1) = true) (fun g => ?_); have g := f_all_s.mp g; rw [hff] at g; grind)
          · skip
            refine x_iload C dX7_select_75 rfl ?_
            refine x_iconst (v := 4) C dX7_select_77 (by decide) ?_
            refine x_ishr C dX7_select_78 ?_
            refine x_iload C dX7_select_79 rfl ?_
            refine x_iconst (v := 4) C dX7_select_81 (by decide) ?_
            refine x_ishr C dX7_select_82 ?_
            refine x_icmp_ne (tgt := 90) C dX7_select_83 (by decide) (fun c83 => ?_) (fun c83 => ?_)
            · skip
              refine x_iconst (v := 0) C dX7_select_90 (by decide) ?_
              refine x_istore_nE (L' := [some _, some _, some _, some _, some _, some _]) C dX7_select_91 (by rw [hn]; decide) rfl ?_
              refine x_goto (tgt := 120) C dX7_select_92 (by decide) ?_
              refine x_iincE (v := nI (b + 1)) (L' := [some _, some _, some _, some _, some _, some _]) C dX7_select_120 rfl (nI_1 b) (by rw [hn]; decide) rfl ?_
              refine x_goto (tgt := 4) C dX7_select_123 (by decide) ?_
              refine ih (b + 1) _ _ _ (by omega) ?_; clear ih kk C Y E; subst hv; simp only [bI_0, Classical.not_not] at *; first | (refine bI_1 (p := f_all S k (b + 1) = true) (f_all_s.mpr ⟨by assumption, hff.mpr ?_⟩); grind) | (refine bI_00 (p := f_all S k (b + 1) = true) (fun g => ?_); have g := f_all_s.mp g; rw [hff] at g; grind)
            · skip
              refine x_iconst (v := 1) C dX7_select_86 (by decide) ?_
              refine x_goto (tgt := 91) C dX7_select_87 (by decide) ?_
              refine x_istore_nE (L' := [some _, some _, some _, some _, some _, some _]) C dX7_select_91 (by rw [hn]; decide) rfl ?_
              refine x_goto (tgt := 120) C dX7_select_92 (by decide) ?_
              refine x_iincE (v := nI (b + 1)) (L' := [some _, some _, some _, some _, some _, some _]) C dX7_select_120 rfl (nI_1 b) (by rw [hn]; decide) rfl ?_
              refine x_goto (tgt := 4) C dX7_select_123 (by decide) ?_
              refine ih (b + 1) _ _ _ (by omega) ?_; clear ih kk C Y E; subst hv; simp only [bI_0, Classical.not_not] at *; first | (refine bI_1 (p := f_all S k (b + 1) = true) (f_all_s.mpr ⟨by assumption, hff.mpr ?_⟩); grind) | (refine bI_00 (p := f_all S k (b + 1) = true) (fun g => ?_); have g := f_all_s.mp g; rw [hff] at g; grind)
        · skip
          refine x_iload C dX7_select_53 rfl ?_
          refine x_bipush (v := 15) C dX7_select_55 (by decide) ?_
          refine x_iand C dX7_select_57 ?_
          refine x_iload C dX7_select_58 rfl ?_
          refine x_bipush (v := 15) C dX7_select_60 (by decide) ?_
          refine x_iand C dX7_select_62 ?_
          refine x_icmp_ne (tgt := 90) C dX7_select_63 (by decide) (fun c63 => ?_) (fun c63 => ?_)
          · skip
            refine x_iconst (v := 0) C dX7_select_90 (by decide) ?_
            refine x_istore_nE (L' := [some _, some _, some _, some _, some _, some _]) C dX7_select_91 (by rw [hn]; decide) rfl ?_
            refine x_goto (tgt := 120) C dX7_select_92 (by decide) ?_
            refine x_iincE (v := nI (b + 1)) (L' := [some _, some _, some _, some _, some _, some _]) C dX7_select_120 rfl (nI_1 b) (by rw [hn]; decide) rfl ?_
            refine x_goto (tgt := 4) C dX7_select_123 (by decide) ?_
            refine ih (b + 1) _ _ _ (by omega) ?_; clear ih kk C Y E; subst hv; simp only [bI_0, Classical.not_not] at *; first | (refine bI_1 (p := f_all S k (b + 1) = true) (f_all_s.mpr ⟨by assumption, hff.mpr ?_⟩); grind) | (refine bI_00 (p := f_all S k (b + 1) = true) (fun g => ?_); have g := f_all_s.mp g; rw [hff] at g; grind)
          · skip
            refine x_iload C dX7_select_66 rfl ?_
            refine x_iconst (v := 4) C dX7_select_68 (by decide) ?_
            refine x_ishr C dX7_select_69 ?_
            refine x_bipush (v := 15) C dX7_select_70 (by decide) ?_
            refine x_icmp_eq (tgt := 86) C dX7_select_72 (by decide) (fun c72 => ?_) (fun c72 => ?_)
            · skip
              refine x_iconst (v := 1) C dX7_select_86 (by decide) ?_
              refine x_goto (tgt := 91) C dX7_select_87 (by decide) ?_
              refine x_istore_nE (L' := [some _, some _, some _, some _, some _, some _]) C dX7_select_91 (by rw [hn]; decide) rfl ?_
              refine x_goto (tgt := 120) C dX7_select_92 (by decide) ?_
              refine x_iincE (v := nI (b + 1)) (L' := [some _, some _, some _, some _, some _, some _]) C dX7_select_120 rfl (nI_1 b) (by rw [hn]; decide) rfl ?_
              refine x_goto (tgt := 4) C dX7_select_123 (by decide) ?_
              refine ih (b + 1) _ _ _ (by omega) ?_; clear ih kk C Y E; subst hv; simp only [bI_0, Classical.not_not] at *; first | (refine bI_1 (p := f_all S k (b + 1) = true) (f_all_s.mpr ⟨by assumption, hff.mpr ?_⟩); grind) | (refine bI_00 (p := f_all S k (b + 1) = true) (fun g => ?_); have g := f_all_s.mp g; rw [hff] at g; grind)
            · skip
              refine x_iload C dX7_select_75 rfl ?_
              refine x_iconst (v := 4) C dX7_select_77 (by decide) ?_
              refine x_ishr C dX7_select_78 ?_
              refine x_iload C dX7_select_79 rfl ?_
              refine x_iconst (v := 4) C dX7_select_81 (by decide) ?_
              refine x_ishr C dX7_select_82 ?_
              refine x_icmp_ne (tgt := 90) C dX7_select_83 (by decide) (fun c83 => ?_) (fun c83 => ?_)
              · skip
                refine x_iconst (v := 0) C dX7_select_90 (by decide) ?_
                refine x_istore_nE (L' := [some _, some _, some _, some _, some _, some _]) C dX7_select_91 (by rw [hn]; decide) rfl ?_
                refine x_goto (tgt := 120) C dX7_select_92 (by decide) ?_
                refine x_iincE (v := nI (b + 1)) (L' := [some _, some _, some _, some _, some _, some _]) C dX7_select_120 rfl (nI_1 b) (by rw [hn]; decide) rfl ?_
                refine x_goto (tgt := 4) C dX7_select_123 (by decide) ?_
                refine ih (b + 1) _ _ _ (by omega) ?_; clear ih kk C Y E; subst hv; simp only [bI_0, Classical.not_not] at *; first | (refine bI_1 (p := f_all S k (b + 1) = true) (f_all_s.mpr ⟨by assumption, hff.mpr ?_⟩); grind) | (refine bI_00 (p := f_all S k (b + 1) = true) (fun g => ?_); have g := f_all_s.mp g; rw [hff] at g; grind)
              · skip
                refine x_iconst (v := 1) C dX7_select_86 (by decide) ?_
                refine x_goto (tgt := 91) C dX7_select_87 (by decide) ?_
                refine x_istore_nE (L' := [some _, some _, some _, some _, some _, some _]) C dX7_select_91 (by rw [hn]; decide) rfl ?_
                refine x_goto (tgt := 120) C dX7_select_92 (by decide) ?_
                refine x_iincE (v := nI (b + 1)) (L' := [some _, some _, some _, some _, some _, some _]) C dX7_select_120 rfl (nI_1 b) (by rw [hn]; decide) rfl ?_
                refine x_goto (tgt := 4) C dX7_select_123 (by decide) ?_
                refine ih (b + 1) _ _ _ (by omega) ?_; clear ih kk C Y E; subst hv; simp only [bI_0, Classical.not_not] at *; first | (refine bI_1 (p := f_all S k (b + 1) = true) (f_all_s.mpr ⟨by assumption, hff.mpr ?_⟩); grind) | (refine bI_00 (p := f_all S k (b + 1) = true) (fun g => ?_); have g := f_all_s.mp g; rw [hff] at g; grind)
theorem s_select (hW : Wm w M) (k : Nat) (hk : k < 12) : TF w M yX7_select cX7_select 6 none 1 [.int (nI k)] S none (f_sel S k) := by
  refine TM.intro hW rfl (Nat.le_of_ble_eq_true rfl) (fun z C Y E hn => ?_)
  refine x_iconst (v := 1) C dX7_select_0 (by decide) ?_
  refine x_istore_nE (L' := [some _, some _, some _, none, none, none]) C dX7_select_1 (by rw [hn]; decide) rfl ?_
  refine x_iconst (v := 0) C dX7_select_2 (by decide) ?_
  refine x_istore_nE (L' := [some _, some _, some _, some _, none, none]) C dX7_select_3 (by rw [hn]; decide) rfl ?_
  refine s_sel_loop hW hk C Y E hn (fun l4 l5 => ?_) 8 0 1 none none rfl (bI_1 (p := f_all S k 0 = true) rfl)
  refine x_aload_n C dX7_select_126 rfl ?_
  refine m_getA C Y 13 (by decide) (by decide) wf_X7_29 dX7_select_127 ?_
  refine x_iload_n C dX7_select_130 rfl ?_
  refine x_iload_n C dX7_select_131 rfl ?_
  refine m_zstN C Y hW.2.1 13 (k) (by decide) bI_nar dX7_select_132 (by simp only [nI_lit, nI_add, pk_mul]) (by simp only [m_len]; omega) ?_
  refine x_iload_n C dX7_select_133 rfl ?_
  refine x_if_eq (tgt := 141) C dX7_select_134 (by decide) (fun c134 => ?_) (fun c134 => ?_)
  · skip
    refine m_vret C E dX7_select_141 ?_
    (first | exact ⟨rfl, by unfold f_sel; rw [if_neg (bI_0.mp c134), bI_f (bI_0.mp c134)]⟩ | exact ⟨rfl, by unfold f_sel; rw [if_pos (bI_0n.mp c134), bI_t (bI_0n.mp c134)]⟩)
  · skip
    refine x_aload_n C dX7_select_137 rfl ?_
    refine m_callF C Y hW E (s_ack hW) rfl md_X7_acknowledge wi_X7_acknowledge ws_X7_acknowledge wm_X7_159 dX7_select_138 rfl (by decide) (by decide) rfl (by simp [Value.category]) ?_
    refine m_vret C E dX7_select_141 ?_
    (first | exact ⟨rfl, by unfold f_sel; rw [if_neg (bI_0.mp c134), bI_f (bI_0.mp c134)]⟩ | exact ⟨rfl, by unfold f_sel; rw [if_pos (bI_0n.mp c134), bI_t (bI_0n.mp c134)]⟩)
theorem s_longFrame (hW : Wm w M) (k : Nat) (hk : k < 12) : TF w M yX7_longFrame cX7_longFrame 2 none 1 [.int (nI k)] S none (f_long S k) := by
  refine TM.intro hW rfl (Nat.le_of_ble_eq_true rfl) (fun z C Y E hn => ?_)
  refine x_aload_n C dX7_longFrame_0 rfl ?_
  refine m_getA C Y 3 (by decide) (by decide) wf_X7_13 dX7_longFrame_1 ?_
  refine x_bipush (v := 6) C dX7_longFrame_4 (by decide) ?_
  refine m_ildN C Y 3 (6) (by decide) dX7_longFrame_6 (by simp only [nI_lit, nI_add, pk_mul]) (by simp only [m_len]; omega) ?_
  refine x_bipush (v := 80) C dX7_longFrame_7 (by decide) ?_
  refine x_icmp_ne (tgt := 34) C dX7_longFrame_9 (by decide) (fun c9 => ?_) (fun c9 => ?_)
  · skip
    refine x_aload_n C dX7_longFrame_34 rfl ?_
    refine m_getA C Y 3 (by decide) (by decide) wf_X7_13 dX7_longFrame_35 ?_
    refine x_bipush (v := 6) C dX7_longFrame_38 (by decide) ?_
    refine m_ildN C Y 3 (6) (by decide) dX7_longFrame_40 (by simp only [nI_lit, nI_add, pk_mul]) (by simp only [m_len]; omega) ?_
    refine x_bipush (v := 81) C dX7_longFrame_41 (by decide) ?_
    refine x_icmp_ne (tgt := 110) C dX7_longFrame_43 (by decide) (fun c43 => ?_) (fun c43 => ?_)
    · skip
      refine m_vret C E dX7_longFrame_110 ?_
      refine ⟨rfl, ?_⟩; clear C Y E; (try simp only [← Int32.not_le] at *); unfold f_long; split <;> (try split) <;> first | rfl | (exfalso; grind)
    · skip
      refine x_aload_n C dX7_longFrame_46 rfl ?_
      refine m_getA C Y 3 (by decide) (by decide) wf_X7_13 dX7_longFrame_47 ?_
      refine x_iconst (v := 1) C dX7_longFrame_50 (by decide) ?_
      refine m_ildN C Y 3 (1) (by decide) dX7_longFrame_51 (by simp only [nI_lit, nI_add, pk_mul]) (by simp only [m_len]; omega) ?_
      refine x_bipush (v := 6) C dX7_longFrame_52 (by decide) ?_
      refine x_icmp_ne (tgt := 110) C dX7_longFrame_54 (by decide) (fun c54 => ?_) (fun c54 => ?_)
      · skip
        refine m_vret C E dX7_longFrame_110 ?_
        refine ⟨rfl, ?_⟩; clear C Y E; (try simp only [← Int32.not_le] at *); unfold f_long; split <;> (try split) <;> first | rfl | (exfalso; grind)
      · skip
        refine x_aload_n C dX7_longFrame_57 rfl ?_
        refine m_getA C Y 3 (by decide) (by decide) wf_X7_13 dX7_longFrame_58 ?_
        refine x_bipush (v := 7) C dX7_longFrame_61 (by decide) ?_
        refine m_ildN C Y 3 (7) (by decide) dX7_longFrame_63 (by simp only [nI_lit, nI_add, pk_mul]) (by simp only [m_len]; omega) ?_
        refine x_iconst (v := 1) C dX7_longFrame_64 (by decide) ?_
        refine x_icmp_ne (tgt := 110) C dX7_longFrame_65 (by decide) (fun c65 => ?_) (fun c65 => ?_)
        · skip
          refine m_vret C E dX7_longFrame_110 ?_
          refine ⟨rfl, ?_⟩; clear C Y E; (try simp only [← Int32.not_le] at *); unfold f_long; split <;> (try split) <;> first | rfl | (exfalso; grind)
        · skip
          refine x_aload_n C dX7_longFrame_68 rfl ?_
          refine m_getA C Y 3 (by decide) (by decide) wf_X7_13 dX7_longFrame_69 ?_
          refine x_bipush (v := 8) C dX7_longFrame_72 (by decide) ?_
          refine m_ildN C Y 3 (8) (by decide) dX7_longFrame_74 (by simp only [nI_lit, nI_add, pk_mul]) (by simp only [m_len]; omega) ?_
          refine x_bipush (v := 122) C dX7_longFrame_75 (by decide) ?_
          refine x_icmp_ne (tgt := 110) C dX7_longFrame_77 (by decide) (fun c77 => ?_) (fun c77 => ?_)
          · skip
            refine m_vret C E dX7_longFrame_110 ?_
            refine ⟨rfl, ?_⟩; clear C Y E; (try simp only [← Int32.not_le] at *); unfold f_long; split <;> (try split) <;> first | rfl | (exfalso; grind)
          · skip
            refine x_aload_n C dX7_longFrame_80 rfl ?_
            refine m_getA C Y 3 (by decide) (by decide) wf_X7_13 dX7_longFrame_81 ?_
            refine x_bipush (v := 9) C dX7_longFrame_84 (by decide) ?_
            refine m_ildN C Y 3 (9) (by decide) dX7_longFrame_86 (by simp only [nI_lit, nI_add, pk_mul]) (by simp only [m_len]; omega) ?_
            refine x_sipush (v := 250) C dX7_longFrame_87 (by decide) ?_
            refine x_icmp_gt (tgt := 110) C dX7_longFrame_90 (by decide) (fun c90 => ?_) (fun c90 => ?_)
            · skip
              refine m_vret C E dX7_longFrame_110 ?_
              refine ⟨rfl, ?_⟩; clear C Y E; (try simp only [← Int32.not_le] at *); unfold f_long; split <;> (try split) <;> first | rfl | (exfalso; grind)
            · skip
              refine x_aload_n C dX7_longFrame_93 rfl ?_
              refine m_getA C Y 11 (by decide) (by decide) wf_X7_23 dX7_longFrame_94 ?_
              refine x_iload_n C dX7_longFrame_97 rfl ?_
              refine x_aload_n C dX7_longFrame_98 rfl ?_
              refine m_getA C Y 3 (by decide) (by decide) wf_X7_13 dX7_longFrame_99 ?_
              refine x_bipush (v := 9) C dX7_longFrame_102 (by decide) ?_
              refine m_ildN C Y 3 (9) (by decide) dX7_longFrame_104 (by simp only [nI_lit, nI_add, pk_mul]) (by simp only [m_len]; omega) ?_
              refine m_istN C Y hW.2.1 11 (k) (by decide) dX7_longFrame_105 (by simp only [nI_lit, nI_add, pk_mul]) (by simp only [m_len]; omega) ?_
              refine x_aload_n C dX7_longFrame_106 rfl ?_
              refine m_callF C Y hW E (s_ack hW) rfl md_X7_acknowledge wi_X7_acknowledge ws_X7_acknowledge wm_X7_159 dX7_longFrame_107 rfl (by decide) (by decide) rfl (by simp [Value.category]) ?_
              refine m_vret C E dX7_longFrame_110 ?_
              refine ⟨rfl, ?_⟩; clear C Y E; (try simp only [← Int32.not_le] at *); unfold f_long; split <;> (try split) <;> first | rfl | (exfalso; grind)
  · skip
    refine x_aload_n C dX7_longFrame_12 rfl ?_
    refine m_getA C Y 3 (by decide) (by decide) wf_X7_13 dX7_longFrame_13 ?_
    refine x_iconst (v := 1) C dX7_longFrame_16 (by decide) ?_
    refine m_ildN C Y 3 (1) (by decide) dX7_longFrame_17 (by simp only [nI_lit, nI_add, pk_mul]) (by simp only [m_len]; omega) ?_
    refine x_iconst (v := 3) C dX7_longFrame_18 (by decide) ?_
    refine x_icmp_ne (tgt := 34) C dX7_longFrame_19 (by decide) (fun c19 => ?_) (fun c19 => ?_)
    · skip
      refine x_aload_n C dX7_longFrame_34 rfl ?_
      refine m_getA C Y 3 (by decide) (by decide) wf_X7_13 dX7_longFrame_35 ?_
      refine x_bipush (v := 6) C dX7_longFrame_38 (by decide) ?_
      refine m_ildN C Y 3 (6) (by decide) dX7_longFrame_40 (by simp only [nI_lit, nI_add, pk_mul]) (by simp only [m_len]; omega) ?_
      refine x_bipush (v := 81) C dX7_longFrame_41 (by decide) ?_
      refine x_icmp_ne (tgt := 110) C dX7_longFrame_43 (by decide) (fun c43 => ?_) (fun c43 => ?_)
      · skip
        refine m_vret C E dX7_longFrame_110 ?_
        refine ⟨rfl, ?_⟩; clear C Y E; (try simp only [← Int32.not_le] at *); unfold f_long; split <;> (try split) <;> first | rfl | (exfalso; grind)
      · skip
        refine x_aload_n C dX7_longFrame_46 rfl ?_
        refine m_getA C Y 3 (by decide) (by decide) wf_X7_13 dX7_longFrame_47 ?_
        refine x_iconst (v := 1) C dX7_longFrame_50 (by decide) ?_
        refine m_ildN C Y 3 (1) (by decide) dX7_longFrame_51 (by simp only [nI_lit, nI_add, pk_mul]) (by simp only [m_len]; omega) ?_
        refine x_bipush (v := 6) C dX7_longFrame_52 (by decide) ?_
        refine x_icmp_ne (tgt := 110) C dX7_longFrame_54 (by decide) (fun c54 => ?_) (fun c54 => ?_)
        · skip
          refine m_vret C E dX7_longFrame_110 ?_
          refine ⟨rfl, ?_⟩; clear C Y E; (try simp only [← Int32.not_le] at *); unfold f_long; split <;> (try split) <;> first | rfl | (exfalso; grind)
        · skip
          refine x_aload_n C dX7_longFrame_57 rfl ?_
          refine m_getA C Y 3 (by decide) (by decide) wf_X7_13 dX7_longFrame_58 ?_
          refine x_bipush (v := 7) C dX7_longFrame_61 (by decide) ?_
          refine m_ildN C Y 3 (7) (by decide) dX7_longFrame_63 (by simp only [nI_lit, nI_add, pk_mul]) (by simp only [m_len]; omega) ?_
          refine x_iconst (v := 1) C dX7_longFrame_64 (by decide) ?_
          refine x_icmp_ne (tgt := 110) C dX7_longFrame_65 (by decide) (fun c65 => ?_) (fun c65 => ?_)
          · skip
            refine m_vret C E dX7_longFrame_110 ?_
            refine ⟨rfl, ?_⟩; clear C Y E; (try simp only [← Int32.not_le] at *); unfold f_long; split <;> (try split) <;> first | rfl | (exfalso; grind)
          · skip
            refine x_aload_n C dX7_longFrame_68 rfl ?_
            refine m_getA C Y 3 (by decide) (by decide) wf_X7_13 dX7_longFrame_69 ?_
            refine x_bipush (v := 8) C dX7_longFrame_72 (by decide) ?_
            refine m_ildN C Y 3 (8) (by decide) dX7_longFrame_74 (by simp only [nI_lit, nI_add, pk_mul]) (by simp only [m_len]; omega) ?_
            refine x_bipush (v := 122) C dX7_longFrame_75 (by decide) ?_
            refine x_icmp_ne (tgt := 110) C dX7_longFrame_77 (by decide) (fun c77 => ?_) (fun c77 => ?_)
            · skip
              refine m_vret C E dX7_longFrame_110 ?_
              refine ⟨rfl, ?_⟩; clear C Y E; (try simp only [← Int32.not_le] at *); unfold f_long; split <;> (try split) <;> first | rfl | (exfalso; grind)
            · skip
              refine x_aload_n C dX7_longFrame_80 rfl ?_
              refine m_getA C Y 3 (by decide) (by decide) wf_X7_13 dX7_longFrame_81 ?_
              refine x_bipush (v := 9) C dX7_longFrame_84 (by decide) ?_
              refine m_ildN C Y 3 (9) (by decide) dX7_longFrame_86 (by simp only [nI_lit, nI_add, pk_mul]) (by simp only [m_len]; omega) ?_
              refine x_sipush (v := 250) C dX7_longFrame_87 (by decide) ?_
              refine x_icmp_gt (tgt := 110) C dX7_longFrame_90 (by decide) (fun c90 => ?_) (fun c90 => ?_)
              · skip
                refine m_vret C E dX7_longFrame_110 ?_
                refine ⟨rfl, ?_⟩; clear C Y E; (try simp only [← Int32.not_le] at *); unfold f_long; split <;> (try split) <;> first | rfl | (exfalso; grind)
              · skip
                refine x_aload_n C dX7_longFrame_93 rfl ?_
                refine m_getA C Y 11 (by decide) (by decide) wf_X7_23 dX7_longFrame_94 ?_
                refine x_iload_n C dX7_longFrame_97 rfl ?_
                refine x_aload_n C dX7_longFrame_98 rfl ?_
                refine m_getA C Y 3 (by decide) (by decide) wf_X7_13 dX7_longFrame_99 ?_
                refine x_bipush (v := 9) C dX7_longFrame_102 (by decide) ?_
                refine m_ildN C Y 3 (9) (by decide) dX7_longFrame_104 (by simp only [nI_lit, nI_add, pk_mul]) (by simp only [m_len]; omega) ?_
                refine m_istN C Y hW.2.1 11 (k) (by decide) dX7_longFrame_105 (by simp only [nI_lit, nI_add, pk_mul]) (by simp only [m_len]; omega) ?_
                refine x_aload_n C dX7_longFrame_106 rfl ?_
                refine m_callF C Y hW E (s_ack hW) rfl md_X7_acknowledge wi_X7_acknowledge ws_X7_acknowledge wm_X7_159 dX7_longFrame_107 rfl (by decide) (by decide) rfl (by simp [Value.category]) ?_
                refine m_vret C E dX7_longFrame_110 ?_
                refine ⟨rfl, ?_⟩; clear C Y E; (try simp only [← Int32.not_le] at *); unfold f_long; split <;> (try split) <;> first | rfl | (exfalso; grind)
    · skip
      refine x_aload_n C dX7_longFrame_22 rfl ?_
      refine x_iload_n C dX7_longFrame_23 rfl ?_
      refine m_callF C Y hW E (s_forget hW k hk) rfl md_X7_forget wi_X7_forget ws_X7_forget wm_X7_162 dX7_longFrame_24 rfl (by decide) (by decide) rfl (by simp [Value.category]) ?_
      refine x_aload_n C dX7_longFrame_27 rfl ?_
      refine m_callF C Y hW E (s_ack hW) rfl md_X7_acknowledge wi_X7_acknowledge ws_X7_acknowledge wm_X7_159 dX7_longFrame_28 rfl (by decide) (by decide) rfl (by simp [Value.category]) ?_
      refine x_goto (tgt := 110) C dX7_longFrame_31 (by decide) ?_
      refine m_vret C E dX7_longFrame_110 ?_
      refine ⟨rfl, ?_⟩; clear C Y E; (try simp only [← Int32.not_le] at *); unfold f_long; split <;> (try split) <;> first | rfl | (exfalso; grind)
end Small
