/-! MeterBusModel: the bus, whole. -/
def WFa (S : MS) : Prop := ∀ j, j < 12 → WFm S j
theorem WFm.of {S S' : MS} {j : Nat} (h : WFm S j) (h1 : S'.a 15 j = S.a 15 j) (h2 : S'.a 14 j = S.a 14 j) (h3 : ∀ q, S'.a 17 q = S.a 17 q) : WFm S' j := by
  unfold WFm
  simp only [h1, h2, h3]
  exact h
theorem f_ack_a (S : MS) {q j : Nat} (h : q ≠ 5) : (f_ack S).a q j = S.a q j := by
  unfold f_ack
  rw [MS.si_a, MS.sa_a, MS.si_a, if_neg (fun e => h e.1)]
theorem WFm.ack {S : MS} {j : Nat} (h : WFm S j) : WFm (f_ack S) j := h.of (f_ack_a S (by decide)) (f_ack_a S (by decide)) (fun q => f_ack_a S (by decide))
theorem sa_ne {S : MS} {k i q j : Nat} {v : Int32} (h : q ≠ k) : (S.sa k i v).a q j = S.a q j := by rw [MS.sa_a, if_neg (fun e => h e.1)]
theorem WFm.sa {S : MS} {j k i : Nat} {v : Int32} (h : WFm S j) (h15 : 15 ≠ k) (h14 : 14 ≠ k) (h17 : 17 ≠ k) : WFm (S.sa k i v) j := h.of (sa_ne h15) (sa_ne h14) (fun q => sa_ne h17)
theorem WFm.forget {S : MS} {j k : Nat} (h : WFm S j) : WFm (f_forget S k) j := by
  have e17 : ∀ q, (f_forget S k).a 17 q = S.a 17 q := fun q => by unfold f_forget; rw [sa_ne (by decide), sa_ne (by decide)]
  by_cases hj : j = k
  · subst hj
    have e15 : (f_forget S j).a 15 j = -1 := by unfold f_forget; rw [sa_ne (by decide), MS.sa_a, if_pos ⟨rfl, rfl⟩]
    refine ⟨fun g => ?_, fun p hp => by rw [e17]; exact h.2 p hp⟩
    rw [e15] at g
    exact absurd g (by decide)
  · refine h.of ?_ ?_ e17
    · unfold f_forget; rw [sa_ne (by decide), MS.sa_a, if_neg (fun e => hj e.2)]
    · unfold f_forget; rw [MS.sa_a, if_neg (fun e => hj e.2), sa_ne (by decide)]
theorem WFm.sel {S : MS} {j k : Nat} (h : WFm S j) : WFm (f_sel S k) j := by
  unfold f_sel
  split
  · exact (h.sa (by decide) (by decide) (by decide)).ack
  · exact h.sa (by decide) (by decide) (by decide)
theorem WFm.lng {S : MS} {j k : Nat} (h : WFm S j) : WFm (f_long S k) j := by
  unfold f_long
  split
  · exact h.forget.ack
  · split
    · exact (h.sa (by decide) (by decide) (by decide)).ack
    · exact h
theorem WFm.asked {S : MS} {j k : Nat} {bit : Int32} (h : WFm S j) : WFm (f_asked S k bit) j := by
  have e17 : ∀ q, (f_asked S k bit).a 17 q = S.a 17 q := fun q => by unfold f_asked; rw [MS.si_a, sa_ne (by decide), sa_ne (by decide), sa_ne (by decide), MS.ans_ne (by decide)]
  have e14 : (f_asked S k bit).a 14 j = if j = k then nI (f_p S k bit) else S.a 14 j := by
    unfold f_asked
    rw [MS.si_a, sa_ne (by decide), sa_ne (by decide), MS.sa_a, MS.ans_ne (by decide)]
    simp
  by_cases hj : j = k
  · rw [if_pos hj] at e14
    exact ⟨fun g => ⟨f_p S k bit, f_p_lt S k bit, e14⟩, fun p hp => by rw [e17]; exact h.2 p hp⟩
  · rw [if_neg hj] at e14
    refine h.of ?_ e14 e17
    unfold f_asked
    rw [MS.si_a, sa_ne (by decide), MS.sa_a, if_neg (fun e => hj e.2), sa_ne (by decide), MS.ans_ne (by decide)]
theorem WFm.shrt {S : MS} {j k : Nat} {c a : Int32} (h : WFm S j) : WFm (f_short S k c a) j := by
  unfold f_short
  split
  · exact (h.forget.sa (by decide) (by decide) (by decide)).ack
  · split
    · exact h.asked
    · exact h
theorem WFm.step {S : MS} {j k : Nat} {isS sel : Bool} {c a : Int32} (h : WFm S j) : WFm (f_step S isS sel c a k) j := by
  unfold f_step f_does
  split
  · split
    · exact h.sel
    · split
      · exact h.shrt
      · split
        · exact h.lng
        · exact h
  · exact h
theorem WFa.run {S : MS} {isS sel : Bool} {c a : Int32} (h : WFa S) : ∀ n, WFa (f_run S isS sel c a n)
  | 0 => h
  | n + 1 => fun j hj => (WFa.run h n j hj).step
/-- what the bus does with the frame -/
def f_begin (S : MS) : MS := ((S.si 8 (S.i 8 + 1)).si 7 0).si 6 0
def f_end (S : MS) (a : Int32) : MS := (S.si 7 (if a = 255 then 0 else S.i 7)).si 9 (S.i 9 + if 1 < (if a = 255 then 0 else S.i 7) then 1 else 0)
abbrev f_selects (S : MS) : Prop := (S.a 3 4 = 83 ∨ S.a 3 4 = 115) ∧ S.a 3 6 = 82 ∧ S.a 3 1 = 11 ∧ S.a 3 5 = 253
def f_bus (S : MS) (n : Nat) : MS :=
  if f_isS S then f_end (f_run (f_begin S) true false (S.a 3 1) (S.a 3 2) 12) (S.a 3 2)
  else if f_isL S n then f_end (f_run (f_begin S) false (decide (f_selects S)) (S.a 3 4) (S.a 3 5) 12) (S.a 3 5)
  else f_begin S
section Bus
variable {w : Wd} {M : MW} {S : MS}
theorem bus_loop (hW : Wm w M) {isS sel : Bool} {c a : Int32} (h : WFa S) {z : Fx} (C : Cx z RX7 cX7_bus gw) (Y : Mty z M) (E : Ct z w gw yX7_bus none 3 (40 * 3) (PM M (fun q Q => q = none ∧ Q = f_end (f_run S isS sel c a 12) a))) (hn : z.nL = 7) :
    ∀ (t k : Nat) (l6 : Option Value), k + t = 12 → X z 0 0 (MA M (f_run S isS sel c a k)) 133 [some (.ref M.o), some (.int (bI (isS = true))), some (.int c), some (.int a), some (.int (bI (sel = true))), some (.int (nI k)), l6] [] := by
  intro t
  induction t with
  | zero =>
    intro k l6 hk
    obtain rfl : k = 12 := by omega
    generalize f_run S isS sel c a 12 = S1 at E ⊢
    refine x_iload C dX7_bus_133 rfl ?_
    refine x_bipush (v := 12) C dX7_bus_135 (by decide) ?_
    refine x_icmp_ge (tgt := 262) C dX7_bus_137 (by decide) (fun c137 => ?_) (fun c137 => absurd c137 (by decide))
    refine x_aload_n C dX7_bus_262 rfl ?_
    refine x_iload_n C dX7_bus_263 rfl ?_
    refine x_sipush (v := 255) C dX7_bus_264 (by decide) ?_
    refine x_icmp_ne (tgt := 274) C dX7_bus_267 (by decide) (fun c267 => ?_) (fun c267 => ?_)
    · skip
      refine x_aload_n C dX7_bus_274 rfl ?_
      refine m_get C Y 7 (by decide) (by decide) wf_X7_132 dX7_bus_275 ?_
      refine m_put C Y hW.2.1 7 (by decide) (by decide) rfl rfl rfl wf_X7_132 dX7_bus_278 ?_
      refine x_aload_n C dX7_bus_281 rfl ?_
      refine x_dup C dX7_bus_282 rfl ?_
      refine m_get C Y 9 (by decide) (by decide) wf_X7_156 dX7_bus_283 ?_
      refine x_aload_n C dX7_bus_286 rfl ?_
      refine m_get C Y 7 (by decide) (by decide) wf_X7_132 dX7_bus_287 ?_
      refine x_iconst (v := 1) C dX7_bus_290 (by decide) ?_
      refine x_icmp_le (tgt := 298) C dX7_bus_291 (by decide) (fun c291 => ?_) (fun c291 => ?_)
      · skip
        refine x_iconst (v := 0) C dX7_bus_298 (by decide) ?_
        refine x_iadd C dX7_bus_299 ?_
        refine m_put C Y hW.2.1 9 (by decide) (by decide) rfl rfl rfl wf_X7_156 dX7_bus_300 ?_
        refine m_vret C E dX7_bus_303 ?_
        refine ⟨rfl, ?_⟩; clear E C Y; unfold f_end; first | (simp_all [MS.si_i, Int32.not_le, Int32.not_lt]; done) | (simp_all [MS.si_i]; rw [if_neg (Int32.not_lt.mpr c291), Int32.add_zero])
      · skip
        refine x_iconst (v := 1) C dX7_bus_294 (by decide) ?_
        refine x_goto (tgt := 299) C dX7_bus_295 (by decide) ?_
        refine x_iadd C dX7_bus_299 ?_
        refine m_put C Y hW.2.1 9 (by decide) (by decide) rfl rfl rfl wf_X7_156 dX7_bus_300 ?_
        refine m_vret C E dX7_bus_303 ?_
        refine ⟨rfl, ?_⟩; clear E C Y; unfold f_end; first | (simp_all [MS.si_i, Int32.not_le, Int32.not_lt]; done) | (simp_all [MS.si_i]; rw [if_neg (Int32.not_lt.mpr c291), Int32.add_zero])
    · skip
      refine x_iconst (v := 0) C dX7_bus_270 (by decide) ?_
      refine x_goto (tgt := 278) C dX7_bus_271 (by decide) ?_
      refine m_put C Y hW.2.1 7 (by decide) (by decide) rfl rfl rfl wf_X7_132 dX7_bus_278 ?_
      refine x_aload_n C dX7_bus_281 rfl ?_
      refine x_dup C dX7_bus_282 rfl ?_
      refine m_get C Y 9 (by decide) (by decide) wf_X7_156 dX7_bus_283 ?_
      refine x_aload_n C dX7_bus_286 rfl ?_
      refine m_get C Y 7 (by decide) (by decide) wf_X7_132 dX7_bus_287 ?_
      refine x_iconst (v := 1) C dX7_bus_290 (by decide) ?_
      refine x_icmp_le (tgt := 298) C dX7_bus_291 (by decide) (fun c291 => ?_) (fun c291 => ?_)
      · skip
        refine x_iconst (v := 0) C dX7_bus_298 (by decide) ?_
        refine x_iadd C dX7_bus_299 ?_
        refine m_put C Y hW.2.1 9 (by decide) (by decide) rfl rfl rfl wf_X7_156 dX7_bus_300 ?_
        refine m_vret C E dX7_bus_303 ?_
        refine ⟨rfl, ?_⟩; clear E C Y; unfold f_end; first | (simp_all [MS.si_i, Int32.not_le, Int32.not_lt]; done) | (simp_all [MS.si_i]; rw [if_neg (Int32.not_lt.mpr c291), Int32.add_zero])
      · skip
        refine x_iconst (v := 1) C dX7_bus_294 (by decide) ?_
        refine x_goto (tgt := 299) C dX7_bus_295 (by decide) ?_
        refine x_iadd C dX7_bus_299 ?_
        refine m_put C Y hW.2.1 9 (by decide) (by decide) rfl rfl rfl wf_X7_156 dX7_bus_300 ?_
        refine m_vret C E dX7_bus_303 ?_
        refine ⟨rfl, ?_⟩; clear E C Y; unfold f_end; first | (simp_all [MS.si_i, Int32.not_le, Int32.not_lt]; done) | (simp_all [MS.si_i]; rw [if_neg (Int32.not_lt.mpr c291), Int32.add_zero])
  | succ t ih =>
    intro k l6 hk
    have ih2 := ih (k + 1)
    refine x_iload C dX7_bus_133 rfl ?_
    refine x_bipush (v := 12) C dX7_bus_135 (by decide) ?_
    refine x_icmp_ge (tgt := 262) C dX7_bus_137 (by decide) (fun c137 => absurd c137 (by rw [nI_lit]; exact nI_ge (show k < 12 by omega) (by decide))) (fun c137 => ?_)
    refine bus_body hW (show k < 12 by omega) (h.run k k (by omega)) C Y E hn (fun v6 => ?_) l6
    refine x_iincE (v := nI (k + 1)) (L' := [some _, some _, some _, some _, some _, some _, some _]) C dX7_bus_256 rfl (nI_1 k) (by rw [hn]; decide) rfl ?_
    refine x_goto (tgt := 133) C dX7_bus_259 (by decide) ?_
    exact ih2 _ (by omega)
theorem bg_a (S : MS) (q j : Nat) : (f_begin S).a q j = S.a q j := rfl
theorem bg_4 (S : MS) : (f_begin S).i 4 = S.i 4 := rfl
theorem WFa.bg {S : MS} (h : WFa S) : WFa (f_begin S) := fun j hj => (h j hj).of rfl rfl (fun _ => rfl)
theorem s_bus (hW : Wm w M) (n : Nat) (hs : S.i 4 = nI n) (hn3 : n ≤ 300) (h : WFa S) : TF w M yX7_bus cX7_bus 7 none 3 [] S none (f_bus S n) := by
  refine TM.intro hW rfl (Nat.le_of_ble_eq_true rfl) (fun z C Y E hn => ?_)
  have hb := h.bg
  have i0 : bI (f_isS (f_begin S)) = 0 ↔ ¬ f_isS (f_begin S) := bI_0
  have l0 : bI (f_isL (f_begin S) n) = 0 ↔ ¬ f_isL (f_begin S) n := bI_0
  by_cases h1 : f_isS S
  · have e : f_bus S n = f_end (f_run (f_begin S) true false (S.a 3 1) (S.a 3 2) 12) (S.a 3 2) := if_pos h1
    rw [e] at E
    have LP := bus_loop hW hb C Y E hn 12 0
    have h1b : f_isS (f_begin S) := h1
    refine x_aload_n C dX7_bus_0 rfl ?_
    refine x_dup C dX7_bus_1 rfl ?_
    refine m_get C Y 8 (by decide) (by decide) wf_X7_129 dX7_bus_2 ?_
    refine x_iconst (v := 1) C dX7_bus_5 (by decide) ?_
    refine x_iadd C dX7_bus_6 ?_
    refine m_put C Y hW.2.1 8 (by decide) (by decide) rfl rfl rfl wf_X7_129 dX7_bus_7 ?_
    refine x_aload_n C dX7_bus_10 rfl ?_
    refine x_iconst (v := 0) C dX7_bus_11 (by decide) ?_
    refine m_put C Y hW.2.1 7 (by decide) (by decide) rfl rfl rfl wf_X7_132 dX7_bus_12 ?_
    refine x_aload_n C dX7_bus_15 rfl ?_
    refine x_iconst (v := 0) C dX7_bus_16 (by decide) ?_
    refine m_put C Y hW.2.1 6 (by decide) (by decide) rfl rfl rfl wf_X7_135 dX7_bus_17 ?_
    change X z 0 0 (MA M (f_begin S)) 20 _ _
    refine x_aload_n C dX7_bus_20 rfl ?_
    refine m_callF C Y hW E (s_isShort hW) rfl md_X7_isShort wi_X7_isShort ws_X7_isShort wm_X7_138 dX7_bus_21 rfl (by decide) (by decide) rfl (by simp [Value.category]) ?_
    rw [bI_t h1b]
    refine x_istore_nE (L' := [some _, some _, none, none, none, none, none]) C dX7_bus_24 (by rw [hn]; decide) rfl ?_
    refine x_iload_n C dX7_bus_25 rfl ?_
    refine x_if_ne (tgt := 37) C dX7_bus_26 (by decide) (fun c26 => ?_) (fun c26 => absurd c26 (by decide))
    refine x_iload_n C dX7_bus_37 rfl ?_
    refine x_if_eq (tgt := 50) C dX7_bus_38 (by decide) (fun c38 => absurd c38 (by decide)) (fun c38 => ?_)
    refine x_aload_n C dX7_bus_41 rfl ?_
    refine m_getA C Y 3 (by decide) (by decide) wf_X7_13 dX7_bus_42 ?_
    refine x_iconst (v := 1) C dX7_bus_45 (by decide) ?_
    refine m_ildN C Y 3 (1) (by decide) dX7_bus_46 (by simp only [nI_lit, nI_add, pk_mul]) (by simp only [m_len]; omega) ?_
    refine x_goto (tgt := 56) C dX7_bus_47 (by decide) ?_
    refine x_istore_nE (L' := [some _, some _, some _, none, none, none, none]) C dX7_bus_56 (by rw [hn]; decide) rfl ?_
    refine x_iload_n C dX7_bus_57 rfl ?_
    refine x_if_eq (tgt := 70) C dX7_bus_58 (by decide) (fun c58 => absurd c58 (by decide)) (fun c58 => ?_)
    refine x_aload_n C dX7_bus_61 rfl ?_
    refine m_getA C Y 3 (by decide) (by decide) wf_X7_13 dX7_bus_62 ?_
    refine x_iconst (v := 2) C dX7_bus_65 (by decide) ?_
    refine m_ildN C Y 3 (2) (by decide) dX7_bus_66 (by simp only [nI_lit, nI_add, pk_mul]) (by simp only [m_len]; omega) ?_
    refine x_goto (tgt := 76) C dX7_bus_67 (by decide) ?_
    refine x_istore_nE (L' := [some _, some _, some _, some _, none, none, none]) C dX7_bus_76 (by rw [hn]; decide) rfl ?_
    refine x_iload_n C dX7_bus_77 rfl ?_
    refine x_if_ne (tgt := 127) C dX7_bus_78 (by decide) (fun c78 => ?_) (fun c78 => absurd c78 (by decide))
    refine x_iconst (v := 0) C dX7_bus_127 (by decide) ?_
    refine x_istoreE (L' := [some _, some _, some _, some _, some _, none, none]) C dX7_bus_128 (by rw [hn]; decide) rfl ?_
    refine x_iconst (v := 0) C dX7_bus_130 (by decide) ?_
    refine x_istoreE (L' := [some _, some _, some _, some _, some _, some _, none]) C dX7_bus_131 (by rw [hn]; decide) rfl ?_
    exact LP none rfl
  · by_cases h2 : f_isL S n
    · have e : f_bus S n = f_end (f_run (f_begin S) false (decide (f_selects S)) (S.a 3 4) (S.a 3 5) 12) (S.a 3 5) := by unfold f_bus; rw [if_neg h1, if_pos h2]
      rw [e] at E
      have LP := bus_loop hW hb C Y E hn 12 0 none rfl
      have h1b : ¬ f_isS (f_begin S) := h1
      have h2b : f_isL (f_begin S) n := h2
      have T128 : ∀ v : Int32, v = bI (decide (f_selects S) = true) → X z 0 0 (MA M (f_begin S)) 128 [some (.ref M.o), some (.int 0), some (.int (S.a 3 4)), some (.int (S.a 3 5)), none, none, none] [.int v] := by
        intro v ev
        subst ev
        refine x_istoreE (L' := [some _, some _, some _, some _, some _, none, none]) C dX7_bus_128 (by rw [hn]; decide) rfl ?_
        refine x_iconst (v := 0) C dX7_bus_130 (by decide) ?_
        refine x_istoreE (L' := [some _, some _, some _, some _, some _, some _, none]) C dX7_bus_131 (by rw [hn]; decide) rfl ?_
        exact LP
      refine x_aload_n C dX7_bus_0 rfl ?_
      refine x_dup C dX7_bus_1 rfl ?_
      refine m_get C Y 8 (by decide) (by decide) wf_X7_129 dX7_bus_2 ?_
      refine x_iconst (v := 1) C dX7_bus_5 (by decide) ?_
      refine x_iadd C dX7_bus_6 ?_
      refine m_put C Y hW.2.1 8 (by decide) (by decide) rfl rfl rfl wf_X7_129 dX7_bus_7 ?_
      refine x_aload_n C dX7_bus_10 rfl ?_
      refine x_iconst (v := 0) C dX7_bus_11 (by decide) ?_
      refine m_put C Y hW.2.1 7 (by decide) (by decide) rfl rfl rfl wf_X7_132 dX7_bus_12 ?_
      refine x_aload_n C dX7_bus_15 rfl ?_
      refine x_iconst (v := 0) C dX7_bus_16 (by decide) ?_
      refine m_put C Y hW.2.1 6 (by decide) (by decide) rfl rfl rfl wf_X7_135 dX7_bus_17 ?_
      change X z 0 0 (MA M (f_begin S)) 20 _ _
      refine x_aload_n C dX7_bus_20 rfl ?_
      refine m_callF C Y hW E (s_isShort hW) rfl md_X7_isShort wi_X7_isShort ws_X7_isShort wm_X7_138 dX7_bus_21 rfl (by decide) (by decide) rfl (by simp [Value.category]) ?_
      rw [bI_f h1b]
      refine x_istore_nE (L' := [some _, some _, none, none, none, none, none]) C dX7_bus_24 (by rw [hn]; decide) rfl ?_
      refine x_iload_n C dX7_bus_25 rfl ?_
      refine x_if_ne (tgt := 37) C dX7_bus_26 (by decide) (fun c26 => absurd c26 (fun q => q rfl)) (fun c26 => ?_)
      refine x_aload_n C dX7_bus_29 rfl ?_
      refine m_callF C Y hW E (s_isLong hW n hs hn3) rfl md_X7_isLong wi_X7_isLong ws_X7_isLong wm_X7_142 dX7_bus_30 rfl (by decide) (by decide) rfl (by simp [Value.category]) ?_
      rw [bI_t h2b]
      refine x_if_ne (tgt := 37) C dX7_bus_33 (by decide) (fun c33 => ?_) (fun c33 => absurd c33 (by decide))
      refine x_iload_n C dX7_bus_37 rfl ?_
      refine x_if_eq (tgt := 50) C dX7_bus_38 (by decide) (fun c38 => ?_) (fun c38 => absurd c38 (not_not_intro rfl))
      refine x_aload_n C dX7_bus_50 rfl ?_
      refine m_getA C Y 3 (by decide) (by decide) wf_X7_13 dX7_bus_51 ?_
      refine x_iconst (v := 4) C dX7_bus_54 (by decide) ?_
      refine m_ildN C Y 3 (4) (by decide) dX7_bus_55 (by simp only [nI_lit, nI_add, pk_mul]) (by simp only [m_len]; omega) ?_
      refine x_istore_nE (L' := [some _, some _, some _, none, none, none, none]) C dX7_bus_56 (by rw [hn]; decide) rfl ?_
      refine x_iload_n C dX7_bus_57 rfl ?_
      refine x_if_eq (tgt := 70) C dX7_bus_58 (by decide) (fun c58 => ?_) (fun c58 => absurd c58 (not_not_intro rfl))
      refine x_aload_n C dX7_bus_70 rfl ?_
      refine m_getA C Y 3 (by decide) (by decide) wf_X7_13 dX7_bus_71 ?_
      refine x_iconst (v := 5) C dX7_bus_74 (by decide) ?_
      refine m_ildN C Y 3 (5) (by decide) dX7_bus_75 (by simp only [nI_lit, nI_add, pk_mul]) (by simp only [m_len]; omega) ?_
      refine x_istore_nE (L' := [some _, some _, some _, some _, none, none, none]) C dX7_bus_76 (by rw [hn]; decide) rfl ?_
      refine x_iload_n C dX7_bus_77 rfl ?_
      refine x_if_ne (tgt := 127) C dX7_bus_78 (by decide) (fun c78 => absurd c78 (fun q => q rfl)) (fun c78 => ?_)
      refine x_iload_n C dX7_bus_81 rfl ?_
      refine x_bipush (v := 83) C dX7_bus_82 (by decide) ?_
      refine x_icmp_eq (tgt := 93) C dX7_bus_84 (by decide) (fun c84 => ?_) (fun c84 => ?_)
      · skip
        refine x_aload_n C dX7_bus_93 rfl ?_
        refine m_getA C Y 3 (by decide) (by decide) wf_X7_13 dX7_bus_94 ?_
        refine x_bipush (v := 6) C dX7_bus_97 (by decide) ?_
        refine m_ildN C Y 3 (6) (by decide) dX7_bus_99 (by simp only [nI_lit, nI_add, pk_mul]) (by simp only [m_len]; omega) ?_
        refine x_bipush (v := 82) C dX7_bus_100 (by decide) ?_
        refine x_icmp_ne (tgt := 127) C dX7_bus_102 (by decide) (fun c102 => ?_) (fun c102 => ?_)
        · skip
          refine x_iconst (v := 0) C dX7_bus_127 (by decide) ?_
          refine T128 _ ?_; clear T128 LP C Y E; first | (refine bI_1 (p := decide (f_selects S) = true) ?_; rw [decide_eq_true_eq]; simp only [bg_a] at *; grind) | (refine bI_00 (p := decide (f_selects S) = true) ?_; rw [decide_eq_true_eq]; simp only [bg_a] at *; grind)
        · skip
          refine x_aload_n C dX7_bus_105 rfl ?_
          refine m_getA C Y 3 (by decide) (by decide) wf_X7_13 dX7_bus_106 ?_
          refine x_iconst (v := 1) C dX7_bus_109 (by decide) ?_
          refine m_ildN C Y 3 (1) (by decide) dX7_bus_110 (by simp only [nI_lit, nI_add, pk_mul]) (by simp only [m_len]; omega) ?_
          refine x_bipush (v := 11) C dX7_bus_111 (by decide) ?_
          refine x_icmp_ne (tgt := 127) C dX7_bus_113 (by decide) (fun c113 => ?_) (fun c113 => ?_)
          · skip
            refine x_iconst (v := 0) C dX7_bus_127 (by decide) ?_
            refine T128 _ ?_; clear T128 LP C Y E; first | (refine bI_1 (p := decide (f_selects S) = true) ?_; rw [decide_eq_true_eq]; simp only [bg_a] at *; grind) | (refine bI_00 (p := decide (f_selects S) = true) ?_; rw [decide_eq_true_eq]; simp only [bg_a] at *; grind)
          · skip
            refine x_iload_n C dX7_bus_116 rfl ?_
            refine x_sipush (v := 253) C dX7_bus_117 (by decide) ?_
            refine x_icmp_ne (tgt := 127) C dX7_bus_120 (by decide) (fun c120 => ?_) (fun c120 => ?_)
            · skip
              refine x_iconst (v := 0) C dX7_bus_127 (by decide) ?_
              refine T128 _ ?_; clear T128 LP C Y E; first | (refine bI_1 (p := decide (f_selects S) = true) ?_; rw [decide_eq_true_eq]; simp only [bg_a] at *; grind) | (refine bI_00 (p := decide (f_selects S) = true) ?_; rw [decide_eq_true_eq]; simp only [bg_a] at *; grind)
            · skip
              refine x_iconst (v := 1) C dX7_bus_123 (by decide) ?_
              refine x_goto (tgt := 128) C dX7_bus_124 (by decide) ?_
              refine T128 _ ?_; clear T128 LP C Y E; first | (refine bI_1 (p := decide (f_selects S) = true) ?_; rw [decide_eq_true_eq]; simp only [bg_a] at *; grind) | (refine bI_00 (p := decide (f_selects S) = true) ?_; rw [decide_eq_true_eq]; simp only [bg_a] at *; grind)
      · skip
        refine x_iload_n C dX7_bus_87 rfl ?_
        refine x_bipush (v := 115) C dX7_bus_88 (by decide) ?_
        refine x_icmp_ne (tgt := 127) C dX7_bus_90 (by decide) (fun c90 => ?_) (fun c90 => ?_)
        · skip
          refine x_iconst (v := 0) C dX7_bus_127 (by decide) ?_
          refine T128 _ ?_; clear T128 LP C Y E; first | (refine bI_1 (p := decide (f_selects S) = true) ?_; rw [decide_eq_true_eq]; simp only [bg_a] at *; grind) | (refine bI_00 (p := decide (f_selects S) = true) ?_; rw [decide_eq_true_eq]; simp only [bg_a] at *; grind)
        · skip
          refine x_aload_n C dX7_bus_93 rfl ?_
          refine m_getA C Y 3 (by decide) (by decide) wf_X7_13 dX7_bus_94 ?_
          refine x_bipush (v := 6) C dX7_bus_97 (by decide) ?_
          refine m_ildN C Y 3 (6) (by decide) dX7_bus_99 (by simp only [nI_lit, nI_add, pk_mul]) (by simp only [m_len]; omega) ?_
          refine x_bipush (v := 82) C dX7_bus_100 (by decide) ?_
          refine x_icmp_ne (tgt := 127) C dX7_bus_102 (by decide) (fun c102 => ?_) (fun c102 => ?_)
          · skip
            refine x_iconst (v := 0) C dX7_bus_127 (by decide) ?_
            refine T128 _ ?_; clear T128 LP C Y E; first | (refine bI_1 (p := decide (f_selects S) = true) ?_; rw [decide_eq_true_eq]; simp only [bg_a] at *; grind) | (refine bI_00 (p := decide (f_selects S) = true) ?_; rw [decide_eq_true_eq]; simp only [bg_a] at *; grind)
          · skip
            refine x_aload_n C dX7_bus_105 rfl ?_
            refine m_getA C Y 3 (by decide) (by decide) wf_X7_13 dX7_bus_106 ?_
            refine x_iconst (v := 1) C dX7_bus_109 (by decide) ?_
            refine m_ildN C Y 3 (1) (by decide) dX7_bus_110 (by simp only [nI_lit, nI_add, pk_mul]) (by simp only [m_len]; omega) ?_
            refine x_bipush (v := 11) C dX7_bus_111 (by decide) ?_
            refine x_icmp_ne (tgt := 127) C dX7_bus_113 (by decide) (fun c113 => ?_) (fun c113 => ?_)
            · skip
              refine x_iconst (v := 0) C dX7_bus_127 (by decide) ?_
              refine T128 _ ?_; clear T128 LP C Y E; first | (refine bI_1 (p := decide (f_selects S) = true) ?_; rw [decide_eq_true_eq]; simp only [bg_a] at *; grind) | (refine bI_00 (p := decide (f_selects S) = true) ?_; rw [decide_eq_true_eq]; simp only [bg_a] at *; grind)
            · skip
              refine x_iload_n C dX7_bus_116 rfl ?_
              refine x_sipush (v := 253) C dX7_bus_117 (by decide) ?_
              refine x_icmp_ne (tgt := 127) C dX7_bus_120 (by decide) (fun c120 => ?_) (fun c120 => ?_)
              · skip
                refine x_iconst (v := 0) C dX7_bus_127 (by decide) ?_
                refine T128 _ ?_; clear T128 LP C Y E; first | (refine bI_1 (p := decide (f_selects S) = true) ?_; rw [decide_eq_true_eq]; simp only [bg_a] at *; grind) | (refine bI_00 (p := decide (f_selects S) = true) ?_; rw [decide_eq_true_eq]; simp only [bg_a] at *; grind)
              · skip
                refine x_iconst (v := 1) C dX7_bus_123 (by decide) ?_
                refine x_goto (tgt := 128) C dX7_bus_124 (by decide) ?_
                refine T128 _ ?_; clear T128 LP C Y E; first | (refine bI_1 (p := decide (f_selects S) = true) ?_; rw [decide_eq_true_eq]; simp only [bg_a] at *; grind) | (refine bI_00 (p := decide (f_selects S) = true) ?_; rw [decide_eq_true_eq]; simp only [bg_a] at *; grind)
    · have e : f_bus S n = f_begin S := by unfold f_bus; rw [if_neg h1, if_neg h2]
      rw [e] at E
      have h1b : ¬ f_isS (f_begin S) := h1
      have h2b : ¬ f_isL (f_begin S) n := h2
      refine x_aload_n C dX7_bus_0 rfl ?_
      refine x_dup C dX7_bus_1 rfl ?_
      refine m_get C Y 8 (by decide) (by decide) wf_X7_129 dX7_bus_2 ?_
      refine x_iconst (v := 1) C dX7_bus_5 (by decide) ?_
      refine x_iadd C dX7_bus_6 ?_
      refine m_put C Y hW.2.1 8 (by decide) (by decide) rfl rfl rfl wf_X7_129 dX7_bus_7 ?_
      refine x_aload_n C dX7_bus_10 rfl ?_
      refine x_iconst (v := 0) C dX7_bus_11 (by decide) ?_
      refine m_put C Y hW.2.1 7 (by decide) (by decide) rfl rfl rfl wf_X7_132 dX7_bus_12 ?_
      refine x_aload_n C dX7_bus_15 rfl ?_
      refine x_iconst (v := 0) C dX7_bus_16 (by decide) ?_
      refine m_put C Y hW.2.1 6 (by decide) (by decide) rfl rfl rfl wf_X7_135 dX7_bus_17 ?_
      change X z 0 0 (MA M (f_begin S)) 20 _ _
      refine x_aload_n C dX7_bus_20 rfl ?_
      refine m_callF C Y hW E (s_isShort hW) rfl md_X7_isShort wi_X7_isShort ws_X7_isShort wm_X7_138 dX7_bus_21 rfl (by decide) (by decide) rfl (by simp [Value.category]) ?_
      rw [bI_f h1b]
      refine x_istore_nE (L' := [some _, some _, none, none, none, none, none]) C dX7_bus_24 (by rw [hn]; decide) rfl ?_
      refine x_iload_n C dX7_bus_25 rfl ?_
      refine x_if_ne (tgt := 37) C dX7_bus_26 (by decide) (fun c26 => absurd c26 (fun q => q rfl)) (fun c26 => ?_)
      refine x_aload_n C dX7_bus_29 rfl ?_
      refine m_callF C Y hW E (s_isLong hW n hs hn3) rfl md_X7_isLong wi_X7_isLong ws_X7_isLong wm_X7_142 dX7_bus_30 rfl (by decide) (by decide) rfl (by simp [Value.category]) ?_
      rw [bI_f h2b]
      refine x_if_ne (tgt := 37) C dX7_bus_33 (by decide) (fun c33 => absurd c33 (fun q => q rfl)) (fun c33 => ?_)
      refine m_vret C E dX7_bus_36 ?_
      exact ⟨rfl, rfl⟩
end Bus
