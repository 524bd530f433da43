/-! MeterBusModel: the answer that is said byte by byte. -/
theorem MS.ext {S S' : MS} (h1 : ∀ k, S.i k = S'.i k) (h2 : ∀ k j, S.a k j = S'.a k j) (h3 : ∀ k j, S.w k j = S'.w k j) : S = S' :=
  Prod.ext (funext h1) (Prod.ext (funext fun k => funext (h2 k)) (funext fun k => funext (h3 k)))
/-- the list l written over array k from 0 on -/
def MS.wr (S : MS) (k : Nat) (l : List Int32) : MS := (S.1, va_up S.2.1 k (fun j => if j < l.length then l.getD j 0 else S.2.1 k j), S.2.2)
theorem MS.wr_i (S : MS) (k : Nat) (l : List Int32) (q : Nat) : (S.wr k l).i q = S.i q := rfl
theorem MS.wr_w (S : MS) (k : Nat) (l : List Int32) (q j : Nat) : (S.wr k l).w q j = S.w q j := rfl
theorem MS.wr_a (S : MS) (k : Nat) (l : List Int32) (q j : Nat) : (S.wr k l).a q j = if q = k ∧ j < l.length then l.getD j 0 else S.a q j := by
  by_cases h : q = k
  · subst h
    by_cases g : j < l.length <;> simp [MS.wr, MS.a, va_up, g]
  · simp [MS.wr, MS.a, va_up, h]
theorem MS.wr_nil (S : MS) (k : Nat) : S.wr k [] = S := MS.ext (fun _ => rfl) (fun q j => by rw [MS.wr_a]; simp) (fun _ _ => rfl)
/-- the answer so far -/
def MS.ans (S : MS) (l : List Int32) : MS := (S.wr 5 l).si 6 (nI l.length)
theorem MS.ans_i (S : MS) (l : List Int32) (q : Nat) : (S.ans l).i q = if q = 6 then nI l.length else S.i q := rfl
theorem MS.ans_a (S : MS) (l : List Int32) (q j : Nat) : (S.ans l).a q j = if q = 5 ∧ j < l.length then l.getD j 0 else S.a q j := MS.wr_a S 5 l q j
theorem MS.ans_w (S : MS) (l : List Int32) (q j : Nat) : (S.ans l).w q j = S.w q j := rfl
theorem MS.ans_nil (S : MS) : S.ans [] = S.si 6 0 := by unfold MS.ans; rw [MS.wr_nil]; rfl
theorem MS.ans_say (S : MS) (l : List Int32) (b : Int32) : ((S.ans l).sa 5 l.length b).si 6 (nI (l.length + 1)) = S.ans (l ++ [b]) := by
  refine MS.ext (fun q => ?_) (fun q j => ?_) (fun _ _ => rfl)
  · simp only [MS.si_i, MS.sa_i, MS.ans_i, List.length_append, List.length_singleton]
    split <;> rfl
  · simp only [MS.si_a, MS.sa_a, MS.ans_a, List.length_append, List.length_singleton, List.getD_eq_getElem?_getD]
    by_cases h : q = 5
    · subst h
      by_cases g : j = l.length
      · subst g; simp
      · by_cases g2 : j < l.length
        · simp [g, g2, List.getElem?_append_left, Nat.lt_succ_of_lt g2]
        · simp [g, g2, show ¬ j < l.length + 1 by omega]
    · simp [h]
section Small
variable {w : Wd} {M : MW} {S : MS}
theorem s_sayL (hW : Wm w M) (l : List Int32) (b : Int32) (hl : l.length < 300) : TF w M yX7_say cX7_say 2 none 0 [.int b] (S.ans l) none (S.ans (l ++ [b])) := by
  have := s_say (S := S.ans l) hW b l.length rfl hl
  rw [MS.ans_say] at this
  exact this
end Small
theorem MS.ans_ne {S : MS} {l : List Int32} {q j : Nat} (h : q ≠ 5) : (S.ans l).a q j = S.a q j := by rw [MS.ans_a]; simp [h]
theorem MS.ans_6 {S : MS} {l : List Int32} : (S.ans l).i 6 = nI l.length := rfl
theorem MS.ans_5 {S : MS} {l : List Int32} {j : Nat} (h : j < l.length) : (S.ans l).a 5 j = l.getD j 0 := by rw [MS.ans_a]; simp [h]
/-- n bytes of array q from o on -/
def MS.seg (S : MS) (q o n : Nat) : List Int32 := (List.range n).map (fun j => S.a q (o + j))
theorem MS.seg_len (S : MS) (q o n : Nat) : (S.seg q o n).length = n := by simp [MS.seg]
theorem MS.seg_s (S : MS) (q o n : Nat) : S.seg q o (n + 1) = S.seg q o n ++ [S.a q (o + n)] := by simp [MS.seg, List.range_succ]
theorem MS.seg_0 (S : MS) (q o : Nat) : S.seg q o 0 = [] := rfl
def sumL (l : List Int32) (a b : Nat) : Int32 := ((List.range (b - a)).map (fun j => l.getD (a + j) 0)).foldl (· + ·) 0
theorem sumL_0 (l : List Int32) (a : Nat) : sumL l a a = 0 := by simp [sumL]
theorem sumL_s (l : List Int32) {a b : Nat} (h : a ≤ b) : sumL l a (b + 1) = sumL l a b + l.getD b 0 := by
  unfold sumL
  rw [show b + 1 - a = (b - a) + 1 by omega, List.range_succ, List.map_append, List.foldl_append]
  simp [show a + (b - a) = b by omega]
section Tell
variable {w : Wd} {M : MW} {S : MS} {z : Fx} {post : Option Value → MS → Prop} {k p : Nat} {mv nv lv : Int32}
theorem tl1 (hW : Wm w M) (hk : k < 12) (C : Cx z RX7 cX7_tell gw) (Y : Mty z M) (E : Ct z w gw yX7_tell none 1 (40 * 1) (PM M post)) (hn : z.nL = 8) (l0 : List Int32) (h0 : l0.length ≤ 20)
    (kk : X z 0 0 (MA M (S.ans (l0 ++ S.seg 12 (8 * k) 8))) 129 [some (.ref M.o), some (.int (nI k)), some (.int (nI p)), some (.int mv), some (.int nv), some (.int lv), some (.int (nI 8)), none] []) :
    ∀ (n b : Nat), b + n = 8 → X z 0 0 (MA M (S.ans (l0 ++ S.seg 12 (8 * k) b))) 100 [some (.ref M.o), some (.int (nI k)), some (.int (nI p)), some (.int mv), some (.int nv), some (.int lv), some (.int (nI b)), none] [] := by
  intro n
  induction n with
  | zero =>
    intro b hb
    obtain rfl : b = 8 := by omega
    refine x_iload C dX7_tell_100 rfl ?_
    refine x_bipush (v := 8) C dX7_tell_102 (by decide) ?_
    refine x_icmp_ge (tgt := 129) C dX7_tell_104 (by decide) (fun c104 => ?_) (fun c104 => absurd c104 (by decide))
    exact kk
  | succ n ih =>
    intro b hb
    refine x_iload C dX7_tell_100 rfl ?_
    refine x_bipush (v := 8) C dX7_tell_102 (by decide) ?_
    refine x_icmp_ge (tgt := 129) C dX7_tell_104 (by decide) (fun c104 => absurd c104 (by rw [nI_lit]; exact nI_ge (show b < 8 by omega) (by decide))) (fun c104 => ?_)
    refine x_aload_n C dX7_tell_107 rfl ?_
    refine x_aload_n C dX7_tell_108 rfl ?_
    refine m_getA C Y 12 (by decide) (by decide) wf_X7_26 dX7_tell_109 ?_
    refine x_bipush (v := 8) C dX7_tell_112 (by decide) ?_
    refine x_iload_n C dX7_tell_114 rfl ?_
    refine x_imul C dX7_tell_115 ?_
    refine x_iload C dX7_tell_116 rfl ?_
    refine x_iadd C dX7_tell_118 ?_
    refine m_ildN C Y 12 (8 * k + b) (by decide) dX7_tell_119 (by simp only [nI_lit, nI_add, pk_mul]) (by simp only [m_len]; omega) ?_
    rw [MS.ans_ne (by decide)]
    refine m_callF C Y hW E (s_sayL hW _ _ (by rw [List.length_append, MS.seg_len]; omega)) rfl md_X7_say wi_X7_say ws_X7_say wm_X7_169 dX7_tell_120 rfl (by decide) (by decide) rfl (by simp [Value.category]) ?_
    rw [List.append_assoc, ← MS.seg_s]
    refine x_iincE (v := nI (b + 1)) (L' := [some _, some _, some _, some _, some _, some _, some _, none]) C dX7_tell_123 rfl (nI_1 b) (by rw [hn]; decide) rfl ?_
    refine x_goto (tgt := 100) C dX7_tell_126 (by decide) ?_
    exact ih (b + 1) (by omega)
theorem tl2 (hW : Wm w M) (hk : k < 12) (hp : p < 3) (C : Cx z RX7 cX7_tell gw) (Y : Mty z M) (E : Ct z w gw yX7_tell none 1 (40 * 1) (PM M post)) (hn : z.nL = 8) (l0 : List Int32) (h0 : l0.length ≤ 40) (N : Nat) (hN : N ≤ 60)
    (kk : X z 0 0 (MA M (S.ans (l0 ++ S.seg 18 (60 * (3 * k + p)) N))) 190 [some (.ref M.o), some (.int (nI k)), some (.int (nI p)), some (.int mv), some (.int (nI N)), some (.int lv), some (.int (nI N)), none] []) :
    ∀ (n b : Nat), b + n = N → X z 0 0 (MA M (S.ans (l0 ++ S.seg 18 (60 * (3 * k + p)) b))) 157 [some (.ref M.o), some (.int (nI k)), some (.int (nI p)), some (.int mv), some (.int (nI N)), some (.int lv), some (.int (nI b)), none] [] := by
  intro n
  induction n with
  | zero =>
    intro b hb
    obtain rfl : b = N := by omega
    refine x_iload C dX7_tell_157 rfl ?_
    refine x_iload C dX7_tell_159 rfl ?_
    refine x_icmp_ge (tgt := 190) C dX7_tell_161 (by decide) (fun c161 => ?_) (fun c161 => absurd c161 (not_not_intro (Int32.le_refl _)))
    exact kk
  | succ n ih =>
    intro b hb
    refine x_iload C dX7_tell_157 rfl ?_
    refine x_iload C dX7_tell_159 rfl ?_
    refine x_icmp_ge (tgt := 190) C dX7_tell_161 (by decide) (fun c161 => absurd c161 (nI_ge (show b < N by omega) (by omega))) (fun c161 => ?_)
    refine x_aload_n C dX7_tell_164 rfl ?_
    refine x_aload_n C dX7_tell_165 rfl ?_
    refine m_getA C Y 18 (by decide) (by decide) wf_X7_44 dX7_tell_166 ?_
    refine x_bipush (v := 60) C dX7_tell_169 (by decide) ?_
    refine x_iconst (v := 3) C dX7_tell_171 (by decide) ?_
    refine x_iload_n C dX7_tell_172 rfl ?_
    refine x_imul C dX7_tell_173 ?_
    refine x_iload_n C dX7_tell_174 rfl ?_
    refine x_iadd C dX7_tell_175 ?_
    refine x_imul C dX7_tell_176 ?_
    refine x_iload C dX7_tell_177 rfl ?_
    refine x_iadd C dX7_tell_179 ?_
    refine m_ildN C Y 18 (60 * (3 * k + p) + b) (by decide) dX7_tell_180 (by simp only [nI_lit, nI_add, pk_mul]) (by simp only [m_len]; omega) ?_
    rw [MS.ans_ne (by decide)]
    refine m_callF C Y hW E (s_sayL hW _ _ (by rw [List.length_append, MS.seg_len]; omega)) rfl md_X7_say wi_X7_say ws_X7_say wm_X7_169 dX7_tell_181 rfl (by decide) (by decide) rfl (by simp [Value.category]) ?_
    rw [List.append_assoc, ← MS.seg_s]
    refine x_iincE (v := nI (b + 1)) (L' := [some _, some _, some _, some _, some _, some _, some _, none]) C dX7_tell_184 rfl (nI_1 b) (by rw [hn]; decide) rfl ?_
    refine x_goto (tgt := 157) C dX7_tell_187 (by decide) ?_
    exact ih (b + 1) (by omega)
theorem tl3 (hW : Wm w M) (C : Cx z RX7 cX7_tell gw) (Y : Mty z M) (E : Ct z w gw yX7_tell none 1 (40 * 1) (PM M post)) (hn : z.nL = 8) (l : List Int32) (h0 : l.length ≤ 200) (h4 : 4 ≤ l.length)
    (kk : X z 0 0 (MA M (S.ans l)) 233 [some (.ref M.o), some (.int (nI k)), some (.int (nI p)), some (.int mv), some (.int nv), some (.int lv), some (.int (sumL l 4 l.length)), some (.int (nI l.length))] []) :
    ∀ (n b : Nat), b + n = l.length → 4 ≤ b → X z 0 0 (MA M (S.ans l)) 206 [some (.ref M.o), some (.int (nI k)), some (.int (nI p)), some (.int mv), some (.int nv), some (.int lv), some (.int (sumL l 4 b)), some (.int (nI b))] [] := by
  intro n
  induction n with
  | zero =>
    intro b hb h4b
    obtain rfl : b = l.length := by omega
    refine x_iload C dX7_tell_206 rfl ?_
    refine x_aload_n C dX7_tell_208 rfl ?_
    refine m_get C Y 6 (by decide) (by decide) wf_X7_135 dX7_tell_209 ?_
    rw [MS.ans_6]
    refine x_icmp_ge (tgt := 233) C dX7_tell_212 (by decide) (fun c212 => ?_) (fun c212 => absurd c212 (not_not_intro (Int32.le_refl _)))
    exact kk
  | succ n ih =>
    intro b hb h4b
    refine x_iload C dX7_tell_206 rfl ?_
    refine x_aload_n C dX7_tell_208 rfl ?_
    refine m_get C Y 6 (by decide) (by decide) wf_X7_135 dX7_tell_209 ?_
    rw [MS.ans_6]
    refine x_icmp_ge (tgt := 233) C dX7_tell_212 (by decide) (fun c212 => absurd c212 (nI_ge (show b < l.length by omega) (by omega))) (fun c212 => ?_)
    refine x_iload C dX7_tell_215 rfl ?_
    refine x_aload_n C dX7_tell_217 rfl ?_
    refine m_getA C Y 5 (by decide) (by decide) wf_X7_16 dX7_tell_218 ?_
    refine x_iload C dX7_tell_221 rfl ?_
    refine m_ildN C Y 5 (b) (by decide) dX7_tell_223 (by simp only [nI_lit, nI_add, pk_mul]) (by simp only [m_len]; omega) ?_
    rw [MS.ans_5 (by omega)]
    refine x_iadd C dX7_tell_224 ?_
    rw [← sumL_s l h4b]
    refine x_istoreE (L' := [some _, some _, some _, some _, some _, some _, some _, some _]) C dX7_tell_225 (by rw [hn]; decide) rfl ?_
    refine x_iincE (v := nI (b + 1)) (L' := [some _, some _, some _, some _, some _, some _, some _, some _]) C dX7_tell_227 rfl (nI_1 b) (by rw [hn]; decide) rfl ?_
    refine x_goto (tgt := 206) C dX7_tell_230 (by decide) ?_
    exact ih (b + 1) (by omega) (by omega)
end Tell
def f_pages (S : MS) (k : Nat) : Nat := if 0 < S.a 17 (3 * k + 2) then 3 else if 0 < S.a 17 (3 * k + 1) then 2 else 1
def f_more (S : MS) (k p : Nat) : Bool := decide (p + 1 < f_pages S k)
def f_body (S : MS) (k p N : Nat) : List Int32 := [104, nI (15 + N + if f_more S k p then 1 else 0), nI (15 + N + if f_more S k p then 1 else 0), 104, 8, S.a 11 k, 114] ++ S.seg 12 (8 * k) 8 ++ [S.a 16 k, 0, 0, 0] ++ S.seg 18 (60 * (3 * k + p)) N ++ if f_more S k p then [31] else []
def f_tel (S : MS) (k p N : Nat) : List Int32 := f_body S k p N ++ [sumL (f_body S k p N) 4 (f_body S k p N).length &&& 255] ++ [22]
section Tell
variable {w : Wd} {M : MW} {S : MS}
theorem s_pages (hW : Wm w M) (k : Nat) (hk : k < 12) : TF w M yX7_pagesOf cX7_pagesOf 2 (some .int) 0 [.int (nI k)] S (some (.int (nI (f_pages S k)))) S := by
  have h := s_pagesOf (S := S) hW k hk
  have e : (if 0 < S.a 17 (3 * k + 2) then (3 : Int32) else if 0 < S.a 17 (3 * k + 1) then 2 else 1) = nI (f_pages S k) := by
    unfold f_pages; split; rfl; split; rfl; rfl
  rw [e] at h
  exact h
theorem f_pages_le (S : MS) (k : Nat) : 1 ≤ f_pages S k ∧ f_pages S k ≤ 3 := by unfold f_pages; split; omega; split <;> omega
theorem f_body_len (S : MS) (k p N : Nat) : (f_body S k p N).length = 19 + N + if f_more S k p then 1 else 0 := by
  unfold f_body
  split <;> simp [MS.seg_len] <;> omega
theorem x_ans {z : Fx} {kc ks pc : Nat} {L : List (Option Value)} {st : List Value} {l l' : List Int32} (e : l = l') (k : X z kc ks (MA M (S.ans l')) pc L st) : X z kc ks (MA M (S.ans l)) pc L st := by subst e; exact k
theorem tl_tail (hW : Wm w M) (k : Nat) (hk : k < 12) (p : Nat) (hp : p < 3) (N : Nat) (hN : N ≤ 60) {z : Fx} (C : Cx z RX7 cX7_tell gw) (Y : Mty z M) (E : Ct z w gw yX7_tell none 1 (40 * 1) (PM M (fun q Q => q = none ∧ Q = S.ans (f_tel S k p N)))) (hn : z.nL = 8) (lv : Int32) (hlv : lv = nI (15 + N + if f_more S k p then 1 else 0)) :
    X z 0 0 (MA M S) 46 [some (.ref M.o), some (.int (nI k)), some (.int (nI p)), some (.int (bI (f_more S k p = true))), some (.int (nI N)), some (.int lv), none, none] [] := by
  have hbl := f_body_len S k p N
  refine x_aload_n C dX7_tell_46 rfl ?_
  refine x_iconst (v := 0) C dX7_tell_47 (by decide) ?_
  refine m_put C Y hW.2.1 6 (by decide) (by decide) rfl rfl rfl wf_X7_135 dX7_tell_48 ?_
  rw [← MS.ans_nil]
  refine x_aload_n C dX7_tell_51 rfl ?_
  refine x_bipush (v := 104) C dX7_tell_52 (by decide) ?_
  refine m_callF C Y hW E (s_sayL hW _ _ (by simp)) rfl md_X7_say wi_X7_say ws_X7_say wm_X7_169 dX7_tell_54 rfl (by decide) (by decide) rfl (by simp [Value.category]) ?_
  refine x_aload_n C dX7_tell_57 rfl ?_
  refine x_iload C dX7_tell_58 rfl ?_
  refine m_callF C Y hW E (s_sayL hW _ _ (by simp)) rfl md_X7_say wi_X7_say ws_X7_say wm_X7_169 dX7_tell_60 rfl (by decide) (by decide) rfl (by simp [Value.category]) ?_
  refine x_aload_n C dX7_tell_63 rfl ?_
  refine x_iload C dX7_tell_64 rfl ?_
  refine m_callF C Y hW E (s_sayL hW _ _ (by simp)) rfl md_X7_say wi_X7_say ws_X7_say wm_X7_169 dX7_tell_66 rfl (by decide) (by decide) rfl (by simp [Value.category]) ?_
  refine x_aload_n C dX7_tell_69 rfl ?_
  refine x_bipush (v := 104) C dX7_tell_70 (by decide) ?_
  refine m_callF C Y hW E (s_sayL hW _ _ (by simp)) rfl md_X7_say wi_X7_say ws_X7_say wm_X7_169 dX7_tell_72 rfl (by decide) (by decide) rfl (by simp [Value.category]) ?_
  refine x_aload_n C dX7_tell_75 rfl ?_
  refine x_bipush (v := 8) C dX7_tell_76 (by decide) ?_
  refine m_callF C Y hW E (s_sayL hW _ _ (by simp)) rfl md_X7_say wi_X7_say ws_X7_say wm_X7_169 dX7_tell_78 rfl (by decide) (by decide) rfl (by simp [Value.category]) ?_
  refine x_aload_n C dX7_tell_81 rfl ?_
  refine x_aload_n C dX7_tell_82 rfl ?_
  refine m_getA C Y 11 (by decide) (by decide) wf_X7_23 dX7_tell_83 ?_
  refine x_iload_n C dX7_tell_86 rfl ?_
  refine m_ildN C Y 11 (k) (by decide) dX7_tell_87 (by simp only [nI_lit, nI_add, pk_mul]) (by simp only [m_len]; omega) ?_
  rw [MS.ans_ne (by decide)]
  refine m_callF C Y hW E (s_sayL hW _ _ (by simp)) rfl md_X7_say wi_X7_say ws_X7_say wm_X7_169 dX7_tell_88 rfl (by decide) (by decide) rfl (by simp [Value.category]) ?_
  refine x_aload_n C dX7_tell_91 rfl ?_
  refine x_bipush (v := 114) C dX7_tell_92 (by decide) ?_
  refine m_callF C Y hW E (s_sayL hW _ _ (by simp)) rfl md_X7_say wi_X7_say ws_X7_say wm_X7_169 dX7_tell_94 rfl (by decide) (by decide) rfl (by simp [Value.category]) ?_
  refine x_iconst (v := 0) C dX7_tell_97 (by decide) ?_
  refine x_istoreE (L' := [some _, some _, some _, some _, some _, some _, some _, none]) C dX7_tell_98 (by rw [hn]; decide) rfl ?_
  refine x_ans (l' := [104, lv, lv, 104, 8, S.a 11 k, 114] ++ S.seg 12 (8 * k) 0) (by simp [MS.seg_0]) ?_; refine tl1 hW hk C Y E hn [104, lv, lv, 104, 8, S.a 11 k, 114] (by simp) ?_ 8 0 rfl
  refine x_aload_n C dX7_tell_129 rfl ?_
  refine x_aload_n C dX7_tell_130 rfl ?_
  refine m_getA C Y 16 (by decide) (by decide) wf_X7_38 dX7_tell_131 ?_
  refine x_iload_n C dX7_tell_134 rfl ?_
  refine m_ildN C Y 16 (k) (by decide) dX7_tell_135 (by simp only [nI_lit, nI_add, pk_mul]) (by simp only [m_len]; omega) ?_
  rw [MS.ans_ne (by decide)]
  refine m_callF C Y hW E (s_sayL hW _ _ (by simp [MS.seg_len])) rfl md_X7_say wi_X7_say ws_X7_say wm_X7_169 dX7_tell_136 rfl (by decide) (by decide) rfl (by simp [Value.category]) ?_
  refine x_aload_n C dX7_tell_139 rfl ?_
  refine x_iconst (v := 0) C dX7_tell_140 (by decide) ?_
  refine m_callF C Y hW E (s_sayL hW _ _ (by simp [MS.seg_len])) rfl md_X7_say wi_X7_say ws_X7_say wm_X7_169 dX7_tell_141 rfl (by decide) (by decide) rfl (by simp [Value.category]) ?_
  refine x_aload_n C dX7_tell_144 rfl ?_
  refine x_iconst (v := 0) C dX7_tell_145 (by decide) ?_
  refine m_callF C Y hW E (s_sayL hW _ _ (by simp [MS.seg_len])) rfl md_X7_say wi_X7_say ws_X7_say wm_X7_169 dX7_tell_146 rfl (by decide) (by decide) rfl (by simp [Value.category]) ?_
  refine x_aload_n C dX7_tell_149 rfl ?_
  refine x_iconst (v := 0) C dX7_tell_150 (by decide) ?_
  refine m_callF C Y hW E (s_sayL hW _ _ (by simp [MS.seg_len])) rfl md_X7_say wi_X7_say ws_X7_say wm_X7_169 dX7_tell_151 rfl (by decide) (by decide) rfl (by simp [Value.category]) ?_
  refine x_iconst (v := 0) C dX7_tell_154 (by decide) ?_
  refine x_istoreE (L' := [some _, some _, some _, some _, some _, some _, some _, none]) C dX7_tell_155 (by rw [hn]; decide) rfl ?_
  refine x_ans (l' := ([104, lv, lv, 104, 8, S.a 11 k, 114] ++ S.seg 12 (8 * k) 8 ++ [S.a 16 k, 0, 0, 0]) ++ S.seg 18 (60 * (3 * k + p)) 0) (by simp [MS.seg_0]) ?_; refine tl2 hW hk hp C Y E hn _ (by simp [MS.seg_len]) N hN ?_ N 0 (by omega)
  by_cases hm : f_more S k p = true
  · rw [bI_t hm]
    refine x_iload_n C dX7_tell_190 rfl ?_
    refine x_if_eq (tgt := 200) C dX7_tell_191 (by decide) (fun c191 => absurd c191 (by decide)) (fun c191 => ?_)
    refine x_aload_n C dX7_tell_194 rfl ?_
    refine x_bipush (v := 31) C dX7_tell_195 (by decide) ?_
    refine m_callF C Y hW E (s_sayL hW _ _ (by simp [MS.seg_len]; omega)) rfl md_X7_say wi_X7_say ws_X7_say wm_X7_169 dX7_tell_197 rfl (by decide) (by decide) rfl (by simp [Value.category]) ?_
    refine x_iconst (v := 0) C dX7_tell_200 (by decide) ?_
    refine x_istoreE (L' := [some _, some _, some _, some _, some _, some _, some _, none]) C dX7_tell_201 (by rw [hn]; decide) rfl ?_
    refine x_iconst (v := 4) C dX7_tell_203 (by decide) ?_
    refine x_istoreE (L' := [some _, some _, some _, some _, some _, some _, some _, some _]) C dX7_tell_204 (by rw [hn]; decide) rfl ?_
    refine x_ans (l' := f_body S k p N) (by subst hlv; simp [f_body, hm]) ?_; refine tl3 hW C Y E hn _ (by rw [hbl]; split <;> omega) (by rw [hbl]; omega) ?_ ((f_body S k p N).length - 4) 4 (by rw [hbl]; omega) (by omega)
    refine x_aload_n C dX7_tell_233 rfl ?_
    refine x_iload C dX7_tell_234 rfl ?_
    refine x_sipush (v := 255) C dX7_tell_236 (by decide) ?_
    refine x_iand C dX7_tell_239 ?_
    refine m_callF C Y hW E (s_sayL hW _ _ (by simp [hbl]; split <;> omega)) rfl md_X7_say wi_X7_say ws_X7_say wm_X7_169 dX7_tell_240 rfl (by decide) (by decide) rfl (by simp [Value.category]) ?_
    refine x_aload_n C dX7_tell_243 rfl ?_
    refine x_bipush (v := 22) C dX7_tell_244 (by decide) ?_
    refine m_callF C Y hW E (s_sayL hW _ _ (by simp [hbl]; split <;> omega)) rfl md_X7_say wi_X7_say ws_X7_say wm_X7_169 dX7_tell_246 rfl (by decide) (by decide) rfl (by simp [Value.category]) ?_
    refine m_vret C E dX7_tell_249 ?_
    exact ⟨rfl, rfl⟩
  · rw [bI_f hm]
    refine x_iload_n C dX7_tell_190 rfl ?_
    refine x_if_eq (tgt := 200) C dX7_tell_191 (by decide) (fun c191 => ?_) (fun c191 => absurd c191 (fun q => q rfl))
    refine x_iconst (v := 0) C dX7_tell_200 (by decide) ?_
    refine x_istoreE (L' := [some _, some _, some _, some _, some _, some _, some _, none]) C dX7_tell_201 (by rw [hn]; decide) rfl ?_
    refine x_iconst (v := 4) C dX7_tell_203 (by decide) ?_
    refine x_istoreE (L' := [some _, some _, some _, some _, some _, some _, some _, some _]) C dX7_tell_204 (by rw [hn]; decide) rfl ?_
    refine x_ans (l' := f_body S k p N) (by subst hlv; simp [f_body, hm]) ?_; refine tl3 hW C Y E hn _ (by rw [hbl]; split <;> omega) (by rw [hbl]; omega) ?_ ((f_body S k p N).length - 4) 4 (by rw [hbl]; omega) (by omega)
    refine x_aload_n C dX7_tell_233 rfl ?_
    refine x_iload C dX7_tell_234 rfl ?_
    refine x_sipush (v := 255) C dX7_tell_236 (by decide) ?_
    refine x_iand C dX7_tell_239 ?_
    refine m_callF C Y hW E (s_sayL hW _ _ (by simp [hbl]; split <;> omega)) rfl md_X7_say wi_X7_say ws_X7_say wm_X7_169 dX7_tell_240 rfl (by decide) (by decide) rfl (by simp [Value.category]) ?_
    refine x_aload_n C dX7_tell_243 rfl ?_
    refine x_bipush (v := 22) C dX7_tell_244 (by decide) ?_
    refine m_callF C Y hW E (s_sayL hW _ _ (by simp [hbl]; split <;> omega)) rfl md_X7_say wi_X7_say ws_X7_say wm_X7_169 dX7_tell_246 rfl (by decide) (by decide) rfl (by simp [Value.category]) ?_
    refine m_vret C E dX7_tell_249 ?_
    exact ⟨rfl, rfl⟩
theorem s_tell (hW : Wm w M) (k : Nat) (hk : k < 12) (p : Nat) (hp : p < 3) (N : Nat) (hN : N ≤ 60) (hs : S.a 17 (3 * k + p) = nI N) : TF w M yX7_tell cX7_tell 8 none 1 [.int (nI k), .int (nI p)] S none (S.ans (f_tel S k p N)) := by
  refine TM.intro hW rfl (Nat.le_of_ble_eq_true rfl) (fun z C Y E hn => ?_)
  have hpg := f_pages_le S k
  have T46 := tl_tail hW k hk p hp N hN C Y E hn
  have hm1 : nI (f_pages S k) ≤ nI p + 1 ↔ ¬ f_more S k p = true := by
    rw [nI_1, nI_leI (by omega) (by omega)]
    unfold f_more
    rw [decide_eq_true_eq]
    omega
  have e0 : (15 : Int32) + nI N + 0 = nI (15 + N + 0) := by simp only [nI_lit, nI_add]
  have e1 : (15 : Int32) + nI N + 1 = nI (15 + N + 1) := by simp only [nI_lit, nI_add]
  refine x_iload_n C dX7_tell_0 rfl ?_
  refine x_iconst (v := 1) C dX7_tell_1 (by decide) ?_
  refine x_iadd C dX7_tell_2 ?_
  refine x_aload_n C dX7_tell_3 rfl ?_
  refine x_iload_n C dX7_tell_4 rfl ?_
  refine m_callF C Y hW E (s_pages hW k hk) rfl md_X7_pagesOf wi_X7_pagesOf ws_X7_pagesOf wm_X7_122 dX7_tell_5 rfl (by decide) (by decide) rfl (by simp [Value.category]) ?_
  refine x_icmp_ge (tgt := 15) C dX7_tell_8 (by decide) (fun c8 => ?_) (fun c8 => ?_)
  · skip
    refine x_iconst (v := 0) C dX7_tell_15 (by decide) ?_
    refine x_istore_nE (L' := [some _, some _, some _, some _, none, none, none, none]) C dX7_tell_16 (by rw [hn]; decide) rfl ?_
    refine x_aload_n C dX7_tell_17 rfl ?_
    refine m_getA C Y 17 (by decide) (by decide) wf_X7_41 dX7_tell_18 ?_
    refine x_iconst (v := 3) C dX7_tell_21 (by decide) ?_
    refine x_iload_n C dX7_tell_22 rfl ?_
    refine x_imul C dX7_tell_23 ?_
    refine x_iload_n C dX7_tell_24 rfl ?_
    refine x_iadd C dX7_tell_25 ?_
    refine m_ildN C Y 17 (3 * k + p) (by decide) dX7_tell_26 (by simp only [nI_lit, nI_add, pk_mul]) (by simp only [m_len]; omega) ?_
    rw [hs]
    refine x_istoreE (L' := [some _, some _, some _, some _, some _, none, none, none]) C dX7_tell_27 (by rw [hn]; decide) rfl ?_
    refine x_bipush (v := 15) C dX7_tell_29 (by decide) ?_
    refine x_iload C dX7_tell_31 rfl ?_
    refine x_iadd C dX7_tell_33 ?_
    refine x_iload_n C dX7_tell_34 rfl ?_
    refine x_if_eq (tgt := 42) C dX7_tell_35 (by decide) (fun c35 => ?_) (fun c35 => ?_)
    · skip
      refine x_iconst (v := 0) C dX7_tell_42 (by decide) ?_
      refine x_iadd C dX7_tell_43 ?_
      refine x_istoreE (L' := [some _, some _, some _, some _, some _, some _, none, none]) C dX7_tell_44 (by rw [hn]; decide) rfl ?_
      first | exact absurd c35 (by decide) | exact absurd rfl c35 | (have g := hm1.mp c8; rw [bI_f g] at T46; exact T46 _ (by rw [e0, if_neg g])) | (have g := Classical.not_not.mp (fun q => c8 (hm1.mpr q)); rw [bI_t g] at T46; exact T46 _ (by rw [e1, if_pos g]))
    · skip
      refine x_iconst (v := 1) C dX7_tell_38 (by decide) ?_
      refine x_goto (tgt := 43) C dX7_tell_39 (by decide) ?_
      refine x_iadd C dX7_tell_43 ?_
      refine x_istoreE (L' := [some _, some _, some _, some _, some _, some _, none, none]) C dX7_tell_44 (by rw [hn]; decide) rfl ?_
      first | exact absurd c35 (by decide) | exact absurd rfl c35 | (have g := hm1.mp c8; rw [bI_f g] at T46; exact T46 _ (by rw [e0, if_neg g])) | (have g := Classical.not_not.mp (fun q => c8 (hm1.mpr q)); rw [bI_t g] at T46; exact T46 _ (by rw [e1, if_pos g]))
  · skip
    refine x_iconst (v := 1) C dX7_tell_11 (by decide) ?_
    refine x_goto (tgt := 16) C dX7_tell_12 (by decide) ?_
    refine x_istore_nE (L' := [some _, some _, some _, some _, none, none, none, none]) C dX7_tell_16 (by rw [hn]; decide) rfl ?_
    refine x_aload_n C dX7_tell_17 rfl ?_
    refine m_getA C Y 17 (by decide) (by decide) wf_X7_41 dX7_tell_18 ?_
    refine x_iconst (v := 3) C dX7_tell_21 (by decide) ?_
    refine x_iload_n C dX7_tell_22 rfl ?_
    refine x_imul C dX7_tell_23 ?_
    refine x_iload_n C dX7_tell_24 rfl ?_
    refine x_iadd C dX7_tell_25 ?_
    refine m_ildN C Y 17 (3 * k + p) (by decide) dX7_tell_26 (by simp only [nI_lit, nI_add, pk_mul]) (by simp only [m_len]; omega) ?_
    rw [hs]
    refine x_istoreE (L' := [some _, some _, some _, some _, some _, none, none, none]) C dX7_tell_27 (by rw [hn]; decide) rfl ?_
    refine x_bipush (v := 15) C dX7_tell_29 (by decide) ?_
    refine x_iload C dX7_tell_31 rfl ?_
    refine x_iadd C dX7_tell_33 ?_
    refine x_iload_n C dX7_tell_34 rfl ?_
    refine x_if_eq (tgt := 42) C dX7_tell_35 (by decide) (fun c35 => ?_) (fun c35 => ?_)
    · skip
      refine x_iconst (v := 0) C dX7_tell_42 (by decide) ?_
      refine x_iadd C dX7_tell_43 ?_
      refine x_istoreE (L' := [some _, some _, some _, some _, some _, some _, none, none]) C dX7_tell_44 (by rw [hn]; decide) rfl ?_
      first | exact absurd c35 (by decide) | exact absurd rfl c35 | (have g := hm1.mp c8; rw [bI_f g] at T46; exact T46 _ (by rw [e0, if_neg g])) | (have g := Classical.not_not.mp (fun q => c8 (hm1.mpr q)); rw [bI_t g] at T46; exact T46 _ (by rw [e1, if_pos g]))
    · skip
      refine x_iconst (v := 1) C dX7_tell_38 (by decide) ?_
      refine x_goto (tgt := 43) C dX7_tell_39 (by decide) ?_
      refine x_iadd C dX7_tell_43 ?_
      refine x_istoreE (L' := [some _, some _, some _, some _, some _, some _, none, none]) C dX7_tell_44 (by rw [hn]; decide) rfl ?_
      first | exact absurd c35 (by decide) | exact absurd rfl c35 | (have g := hm1.mp c8; rw [bI_f g] at T46; exact T46 _ (by rw [e0, if_neg g])) | (have g := Classical.not_not.mp (fun q => c8 (hm1.mpr q)); rw [bI_t g] at T46; exact T46 _ (by rw [e1, if_pos g]))
end Tell
