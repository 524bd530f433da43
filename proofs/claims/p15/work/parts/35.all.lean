/-! MeterBusModel: decodeAll, decode. -/
def f_rl : Nat → MS → MS
  | 0, S => S
  | t + 1, S => if S.i 41 = 0 ∧ f_at S < f_e S then f_rl t (f_rcd S) else S
def f_da0 (S : MS) (q n : Nat) : MS := f_cp (((S.si 41 0).si 36 (-1)).si 37 0) 38 q n
def f_da1 (S : MS) (q n : Nat) : MS := if (f_fr (f_da0 S q n) n).1 = true then f_rl 300 ((f_fr (f_da0 S q n) n).2.si 40 19) else (f_fr (f_da0 S q n) n).2
def f_da (S : MS) (q n : Nat) : MS := if 0 < (f_da1 S q n).i 41 then ((f_da1 S q n).si 23 (S.i 23)).si 34 (S.i 34) else f_da1 S q n
section All
variable {w : Wd} {M : MW} {S : MS} {z : Fx} {post : Option Value → MS → Prop}
/-- the loop over the records, from pc 62 -/
theorem da_loop (hW : Wm w M) (C : Cx z RX7 cX7_decodeAll gw) (Y : Mty z M) (E : Ct z w gw yX7_decodeAll (some .int) 4 (40 * 4) (PM M post)) (hn : z.nL = 5) (L : List (Option Value)) (h0 : L[0]? = some (some (.ref M.o))) (R : MS) (kk : X z 0 0 (MA M R) 87 L []) (e : Nat) (he : e ≤ 256) :
    ∀ (t : Nat) (S : MS) (r tx a : Nat), WFd S → GR S e r tx a → 19 ≤ a → r ≤ 100 → tx ≤ 240 * r → e < a + t → f_rl t S = R → X z 0 0 (MA M S) 62 L [] := by
  intro t
  induction t with
  | zero => intro S r tx a _ g _ _ _ h; exact absurd g.2.2.1 (by omega)
  | succ t ih =>
    intro S r tx a hd g ha hr ht hlt hR
    obtain ⟨e1, e2, hp⟩ := g.at (by omega)
    have c40 : nI e ≤ nI a ↔ ¬ a < e := by have := g.2.2.1; rw [nI_leI (by omega) (by omega)]; omega
    rw [f_rl, e1, e2] at hR
    by_cases h1 : S.i 41 = 0 ∧ a < e
    · rw [if_pos h1] at hR
      have ho := s_oneRecord hW hp hd (by omega) (by rw [g.r hr]; exact g.2.2.2.1) (by rw [g.r hr]; exact hr) (by rw [g.tx (by omega)]; exact g.2.2.2.2) (by rw [g.r hr, g.tx (by omega)]; omega) h1.1
      obtain ⟨⟨a1, r1, tx1, g1, g2, g3, g4⟩, g5⟩ := RR.rcd g h1.1 he ha h1.2 hr ht
      have ih2 := ih (f_rcd S) r1 tx1 a1 (hd.same g5) g1 (by omega) g3 g4 (by omega) hR
      refine x_aload_n C dX7_decodeAll_62 h0 ?_
      refine m_get C Y 41 (by decide) (by decide) wf_X7_204 dX7_decodeAll_63 ?_
      refine x_if_ne (tgt := 87) C dX7_decodeAll_66 (by decide) (fun c66 => absurd c66 (not_not_intro h1.1)) (fun c66 => ?_)
      refine x_aload_n C dX7_decodeAll_69 h0 ?_
      refine m_get C Y 40 (by decide) (by decide) wf_X7_221 dX7_decodeAll_70 ?_
      refine x_aload_n C dX7_decodeAll_73 h0 ?_
      refine m_get C Y 39 (by decide) (by decide) wf_X7_215 dX7_decodeAll_74 ?_
      rw [g.1, g.2.1]
      refine x_icmp_ge (tgt := 87) C dX7_decodeAll_77 (by decide) (fun c77 => absurd c77 (fun q => c40.mp q h1.2)) (fun c77 => ?_)
      refine x_aload_n C dX7_decodeAll_80 h0 ?_
      refine m_callF C Y hW E (ho) rfl md_X7_oneRecord wi_X7_oneRecord ws_X7_oneRecord wm_X7_224 dX7_decodeAll_81 rfl (by decide) (by decide) rfl (by simp [Value.category]) ?_
      refine x_goto (tgt := 62) C dX7_decodeAll_84 (by decide) ?_
      exact ih2
    · rw [if_neg h1] at hR
      subst hR
      refine x_aload_n C dX7_decodeAll_62 h0 ?_
      refine m_get C Y 41 (by decide) (by decide) wf_X7_204 dX7_decodeAll_63 ?_
      refine x_if_ne (tgt := 87) C dX7_decodeAll_66 (by decide) (fun c66 => ?_) (fun c66 => ?_)
      · skip
        exact kk
      · skip
        refine x_aload_n C dX7_decodeAll_69 h0 ?_
        refine m_get C Y 40 (by decide) (by decide) wf_X7_221 dX7_decodeAll_70 ?_
        refine x_aload_n C dX7_decodeAll_73 h0 ?_
        refine m_get C Y 39 (by decide) (by decide) wf_X7_215 dX7_decodeAll_74 ?_
        rw [g.1, g.2.1]
        refine x_icmp_ge (tgt := 87) C dX7_decodeAll_77 (by decide) (fun c77 => ?_) (fun c77 => ?_)
        · skip
          exact kk
        · skip
          exact absurd ⟨c66, Classical.not_not.mp (fun q => c77 (c40.mpr q))⟩ h1
theorem f_bl_41 {S : MS} {x y : Int32} (h : S.i 41 = 0) : (f_bl S x y).i 41 = x := by unfold f_bl; rw [if_pos h, MS.si_i, if_neg (by decide), MS.si_i, if_pos rfl]
theorem f_ids_t (L : Nat) : ∀ (t k : Nat), (f_ids S L t k).1 = true → (f_ids S L t k).2 = S.si 39 (nI (L + 4))
  | 0, _, _ => rfl
  | t + 1, k, h => by
    unfold f_ids at h ⊢
    split at h
    · exact nomatch h
    · rename_i g
      rw [if_neg g]
      exact f_ids_t L t (k + 1) h
theorem f_fr_t {n : Nat} (h : (f_fr S n).1 = true) : ∃ L, 15 ≤ L ∧ L ≤ 252 ∧ n = L + 6 ∧ (f_fr S n).2 = S.si 39 (nI (L + 4)) := by
  unfold f_fr at h ⊢
  split at h
  · rename_i h0
    rw [if_pos h0]
    split at h
    · rename_i h1
      rw [if_pos h1]
      obtain ⟨l1, l2, l3⟩ := f_L_of h1
      split at h
      · rename_i h2
        rw [if_pos h2]
        split at h
        · rename_i h3
          rw [if_pos h3]
          unfold f_fr2 at h ⊢
          split at h
          · rename_i h4
            rw [if_pos h4]
            split at h
            · rename_i h5
              rw [if_pos h5]
              split at h
              · rename_i h6
                rw [if_pos h6]
                split at h
                · rename_i h7
                  rw [if_pos h7]
                  unfold f_fr3 at h ⊢
                  split at h
                  · rename_i h8
                    rw [if_pos h8]
                    exact ⟨f_L S, l1, l2, h4, f_ids_t (f_L S) 4 7 h⟩
                  · exact nomatch h
                · exact nomatch h
              · exact nomatch h
            · exact nomatch h
          · exact nomatch h
        · exact nomatch h
      · exact nomatch h
    · exact nomatch h
  · exact nomatch h
theorem s_decodeAll (hW : Wm w M) (q n r tx : Nat) (hq : m_kd q = 1) (hq3 : m_len q = 300) (hq38 : q ≠ 38) (hn3 : n ≤ 300) (hd : WFd S) (hb : ∀ j, j < n → ∃ b, b < 256 ∧ S.a q j = nI b) (hr : S.i 23 = nI r) (hr1 : r ≤ 100) (ht : S.i 34 = nI tx) (ht1 : tx ≤ 240 * r) : TF w M yX7_decodeAll cX7_decodeAll 5 (some .int) 4 [.ref (M.ad q), .int (nI n)] S (some (.int ((f_da1 S q n).i 41))) (f_da S q n) := by
  refine TM.intro hW rfl (Nat.le_of_ble_eq_true rfl) (fun z C Y E hn => ?_)
  generalize hS0 : ((S.si 41 0).si 36 (-1)).si 37 0 = S0
  have hdq : ∀ j, S0.a q j = S.a q j := fun j => by rw [← hS0]; rfl
  have hd0 : WFd (f_da0 S q n) := by
    intro j hj
    unfold f_da0
    rw [hS0, f_cp_eq]
    split
    · rename_i g; rw [hdq]; exact hb j g
    · rw [← hS0]; exact hd j hj
  have i23 : (f_da0 S q n).i 23 = nI r := by unfold f_da0; rw [f_cp_i]; exact hr
  have i34 : (f_da0 S q n).i 34 = nI tx := by unfold f_da0; rw [f_cp_i]; exact ht
  have T87 : X z 0 0 (MA M (f_da1 S q n)) 87 [some (.ref M.o), some (.ref (M.ad q)), some (.int (nI n)), some (.int (nI r)), some (.int (nI tx))] [] := by
    unfold f_da at E
    rw [hr, ht] at E
    generalize f_da1 S q n = S3 at E ⊢
    by_cases h1 : 0 < S3.i 41
    · rw [if_pos h1] at E
      refine x_aload_n C dX7_decodeAll_87 rfl ?_
      refine m_get C Y 41 (by decide) (by decide) wf_X7_204 dX7_decodeAll_88 ?_
      refine x_if_le (tgt := 105) C dX7_decodeAll_91 (by decide) (fun c91 => absurd c91 (Int32.not_le.mpr h1)) (fun c91 => ?_)
      refine x_aload_n C dX7_decodeAll_94 rfl ?_
      refine x_iload_n C dX7_decodeAll_95 rfl ?_
      refine m_put C Y hW.2.1 23 (by decide) (by decide) rfl rfl rfl wf_X7_190 dX7_decodeAll_96 ?_
      refine x_aload_n C dX7_decodeAll_99 rfl ?_
      refine x_iload C dX7_decodeAll_100 rfl ?_
      refine m_put C Y hW.2.1 34 (by decide) (by decide) rfl rfl rfl wf_X7_193 dX7_decodeAll_102 ?_
      refine x_aload_n C dX7_decodeAll_105 rfl ?_
      refine m_get C Y 41 (by decide) (by decide) wf_X7_204 dX7_decodeAll_106 ?_
      refine m_iret C E dX7_decodeAll_109 ?_
      exact ⟨rfl, rfl⟩
    · rw [if_neg h1] at E
      refine x_aload_n C dX7_decodeAll_87 rfl ?_
      refine m_get C Y 41 (by decide) (by decide) wf_X7_204 dX7_decodeAll_88 ?_
      refine x_if_le (tgt := 105) C dX7_decodeAll_91 (by decide) (fun c91 => ?_) (fun c91 => absurd c91 (not_not_intro (Int32.not_lt.mp h1)))
      refine x_aload_n C dX7_decodeAll_105 rfl ?_
      refine m_get C Y 41 (by decide) (by decide) wf_X7_204 dX7_decodeAll_106 ?_
      refine m_iret C E dX7_decodeAll_109 ?_
      exact ⟨rfl, rfl⟩
  have T37 : X z 0 0 (MA M (f_da0 S q n)) 37 [some (.ref M.o), some (.ref (M.ad q)), some (.int (nI n)), some (.int (nI n)), none] [] := by
    unfold f_da1 at T87
    generalize f_da0 S q n = S1 at T87 hd0 i23 i34 ⊢
    have hf := s_isFrame (S := S1) hW n hn3
    by_cases h1 : (f_fr S1 n).1 = true
    · rw [if_pos h1] at T87
      obtain ⟨L, l1, l2, l3, l4⟩ := f_fr_t h1
      rw [bI_t h1, l4] at hf
      rw [l4] at T87
      have g : GR ((S1.si 39 (nI (L + 4))).si 40 19) (L + 4) r tx 19 := ⟨rfl, rfl, by omega, i23, i34⟩
      have LP := da_loop hW C Y E hn _ rfl _ T87 (L + 4) (by omega) 300 ((S1.si 39 (nI (L + 4))).si 40 19) r tx 19 (hd0.same (fun _ => rfl)) g (by decide) hr1 ht1 (by omega) rfl
      refine x_aload_n C dX7_decodeAll_37 rfl ?_
      refine m_get C Y 23 (by decide) (by decide) wf_X7_190 dX7_decodeAll_38 ?_
      rw [i23]
      refine x_istore_nE (L' := [some _, some _, some _, some _, none]) C dX7_decodeAll_41 (by rw [hn]; decide) rfl ?_
      refine x_aload_n C dX7_decodeAll_42 rfl ?_
      refine m_get C Y 34 (by decide) (by decide) wf_X7_193 dX7_decodeAll_43 ?_
      rw [i34]
      refine x_istoreE (L' := [some _, some _, some _, some _, some _]) C dX7_decodeAll_46 (by rw [hn]; decide) rfl ?_
      refine x_aload_n C dX7_decodeAll_48 rfl ?_
      refine x_iload_n C dX7_decodeAll_49 rfl ?_
      refine m_callF C Y hW E (hf) rfl md_X7_isFrame wi_X7_isFrame ws_X7_isFrame wm_X7_218 dX7_decodeAll_50 rfl (by decide) (by decide) rfl (by simp [Value.category]) ?_
      refine x_if_eq (tgt := 87) C dX7_decodeAll_53 (by decide) (fun c53 => absurd c53 (by decide)) (fun c53 => ?_)
      refine x_aload_n C dX7_decodeAll_56 rfl ?_
      refine x_bipush (v := 19) C dX7_decodeAll_57 (by decide) ?_
      refine m_put C Y hW.2.1 40 (by decide) (by decide) rfl rfl rfl wf_X7_221 dX7_decodeAll_59 ?_
      exact LP
    · rw [if_neg h1] at T87
      rw [bI_f h1] at hf
      refine x_aload_n C dX7_decodeAll_37 rfl ?_
      refine m_get C Y 23 (by decide) (by decide) wf_X7_190 dX7_decodeAll_38 ?_
      rw [i23]
      refine x_istore_nE (L' := [some _, some _, some _, some _, none]) C dX7_decodeAll_41 (by rw [hn]; decide) rfl ?_
      refine x_aload_n C dX7_decodeAll_42 rfl ?_
      refine m_get C Y 34 (by decide) (by decide) wf_X7_193 dX7_decodeAll_43 ?_
      rw [i34]
      refine x_istoreE (L' := [some _, some _, some _, some _, some _]) C dX7_decodeAll_46 (by rw [hn]; decide) rfl ?_
      refine x_aload_n C dX7_decodeAll_48 rfl ?_
      refine x_iload_n C dX7_decodeAll_49 rfl ?_
      refine m_callF C Y hW E (hf) rfl md_X7_isFrame wi_X7_isFrame ws_X7_isFrame wm_X7_218 dX7_decodeAll_50 rfl (by decide) (by decide) rfl (by simp [Value.category]) ?_
      refine x_if_eq (tgt := 87) C dX7_decodeAll_53 (by decide) (fun c53 => ?_) (fun c53 => absurd c53 (not_not_intro rfl))
      exact T87
  have LC : ∀ (t b : Nat), b + t = n → X z 0 0 (MA M (f_cp S0 38 q b)) 17 [some (.ref M.o), some (.ref (M.ad q)), some (.int (nI n)), some (.int (nI b)), none] [] := by
    intro t
    induction t with
    | zero =>
      intro b hb
      obtain rfl : b = n := by omega
      unfold f_da0 at T37
      rw [hS0] at T37
      refine x_iload_n C dX7_decodeAll_17 rfl ?_
      refine x_iload_n C dX7_decodeAll_18 rfl ?_
      refine x_icmp_ge (tgt := 37) C dX7_decodeAll_19 (by decide) (fun c19 => ?_) (fun c19 => absurd c19 (not_not_intro (Int32.le_refl _)))
      exact T37
    | succ t ih =>
      intro b hb
      have ih2 := ih (b + 1) (by omega)
      refine x_iload_n C dX7_decodeAll_17 rfl ?_
      refine x_iload_n C dX7_decodeAll_18 rfl ?_
      refine x_icmp_ge (tgt := 37) C dX7_decodeAll_19 (by decide) (fun c19 => absurd c19 (nI_ge (show b < n by omega) (by omega))) (fun c19 => ?_)
      refine x_aload_n C dX7_decodeAll_22 rfl ?_
      refine m_getA C Y 38 (by decide) (by decide) wf_X7_94 dX7_decodeAll_23 ?_
      refine x_iload_n C dX7_decodeAll_26 rfl ?_
      refine x_aload_n C dX7_decodeAll_27 rfl ?_
      refine x_iload_n C dX7_decodeAll_28 rfl ?_
      refine m_ildN C Y q (b) hq dX7_decodeAll_29 (by simp only [nI_lit, nI_add, pk_mul]) (by rw [hq3]; omega) ?_
      rw [f_cp_ne _ _ hq38]
      refine m_istN C Y hW.2.1 38 (b) (by decide) dX7_decodeAll_30 (by simp only [nI_lit, nI_add, pk_mul]) (by simp only [m_len]; omega) ?_
      refine x_iincE (v := nI (b + 1)) (L' := [some _, some _, some _, some _, none]) C dX7_decodeAll_31 rfl (nI_1 b) (by rw [hn]; decide) rfl ?_
      refine x_goto (tgt := 17) C dX7_decodeAll_34 (by decide) ?_
      exact ih2
  refine x_aload_n C dX7_decodeAll_0 rfl ?_
  refine x_iconst (v := 0) C dX7_decodeAll_1 (by decide) ?_
  refine m_put C Y hW.2.1 41 (by decide) (by decide) rfl rfl rfl wf_X7_204 dX7_decodeAll_2 ?_
  refine x_aload_n C dX7_decodeAll_5 rfl ?_
  refine x_iconst (v := (-1)) C dX7_decodeAll_6 (by decide) ?_
  refine m_put C Y hW.2.1 36 (by decide) (by decide) rfl rfl rfl wf_X7_90 dX7_decodeAll_7 ?_
  refine x_aload_n C dX7_decodeAll_10 rfl ?_
  refine x_iconst (v := 0) C dX7_decodeAll_11 (by decide) ?_
  refine m_put C Y hW.2.1 37 (by decide) (by decide) rfl (by decide) (by decide) wf_X7_200 dX7_decodeAll_12 ?_
  refine x_iconst (v := 0) C dX7_decodeAll_15 (by decide) ?_
  refine x_istore_nE (L' := [some _, some _, some _, some _, none]) C dX7_decodeAll_16 (by rw [hn]; decide) rfl ?_
  rw [hS0]; exact LC n 0 (by omega)
def f_decode (S : MS) (n : Nat) : MS := f_da (S.si 0 0) 1 n
theorem s_decode (hW : Wm w M) (n r tx : Nat) (h2 : S.i 2 = nI n) (hn3 : n ≤ 300) (hd : WFd S) (hb : ∀ j, j < n → ∃ b, b < 256 ∧ S.a 1 j = nI b) (hr : S.i 23 = nI r) (hr1 : r ≤ 100) (ht : S.i 34 = nI tx) (ht1 : tx ≤ 240 * r) : TF w M yX7_decode cX7_decode 2 (some .int) 5 [] S (some (.int (if 0 < (f_da1 (S.si 0 0) 1 n).i 41 then -(f_da1 (S.si 0 0) 1 n).i 41 else (f_decode S n).i 23))) (f_decode S n) := by
  refine TM.intro hW rfl (Nat.le_of_ble_eq_true rfl) (fun z C Y E hn => ?_)
  have hx := s_decodeAll (S := S.si 0 0) hW 1 n r tx rfl rfl (by decide) hn3 hd hb hr hr1 ht ht1
  unfold f_decode at E
  generalize f_da (S.si 0 0) 1 n = S2 at E hx
  generalize (f_da1 (S.si 0 0) 1 n).i 41 = v at E hx
  refine x_aload_n C dX7_decode_0 rfl ?_
  refine x_iconst (v := 0) C dX7_decode_1 (by decide) ?_
  refine m_put C Y hW.2.1 0 (by decide) (by decide) rfl rfl rfl wf_X7_97 dX7_decode_2 ?_
  refine x_aload_n C dX7_decode_5 rfl ?_
  refine x_aload_n C dX7_decode_6 rfl ?_
  refine m_getA C Y 1 (by decide) (by decide) wf_X7_7 dX7_decode_7 ?_
  refine x_aload_n C dX7_decode_10 rfl ?_
  refine m_get C Y 2 (by decide) (by decide) wf_X7_104 dX7_decode_11 ?_
  rw [show (S.si 0 0).i 2 = nI n from h2]
  refine m_callF C Y hW E (hx) rfl md_X7_decodeAll wi_X7_decodeAll ws_X7_decodeAll wm_X7_196 dX7_decode_14 rfl (by decide) (by decide) rfl (by simp [Value.category]) ?_
  refine x_istore_nE (L' := [some _, some _]) C dX7_decode_17 (by rw [hn]; decide) rfl ?_
  refine x_iload_n C dX7_decode_18 rfl ?_
  refine x_if_le (tgt := 27) C dX7_decode_19 (by decide) (fun c19 => ?_) (fun c19 => ?_)
  · skip
    refine x_aload_n C dX7_decode_27 rfl ?_
    refine m_get C Y 23 (by decide) (by decide) wf_X7_190 dX7_decode_28 ?_
    refine m_iret C E dX7_decode_31 ?_
    first | exact ⟨congrArg (fun t => some (Value.int t)) (if_neg (Int32.not_lt.mpr c19)).symm, rfl⟩ | exact ⟨congrArg (fun t => some (Value.int t)) (if_pos (Int32.not_le.mp c19)).symm, rfl⟩
  · skip
    refine x_iload_n C dX7_decode_22 rfl ?_
    refine x_ineg C dX7_decode_23 ?_
    refine x_goto (tgt := 31) C dX7_decode_24 (by decide) ?_
    refine m_iret C E dX7_decode_31 ?_
    first | exact ⟨congrArg (fun t => some (Value.int t)) (if_neg (Int32.not_lt.mpr c19)).symm, rfl⟩ | exact ⟨congrArg (fun t => some (Value.int t)) (if_pos (Int32.not_le.mp c19)).symm, rfl⟩
end All
