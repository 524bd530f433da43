/-! MeterBusModel: a record, whole. -/
def f_r (S : MS) : Nat := (S.i 23).toNatClampNeg
def f_tx (S : MS) : Nat := (S.i 34).toNatClampNeg
def f_size (cc : Nat) : Nat := match cc with
  | 0 => 0 | 1 => 1 | 2 => 2 | 3 => 3 | 4 => 4 | 5 => 4 | 6 => 6 | 7 => 8 | 9 => 1 | 10 => 2 | 11 => 3 | 12 => 4 | _ => 6
def f_value (S : MS) (cc : Nat) : MS := if cc = 13 then f_valD S (f_at S) (f_e S) (f_r S) (f_tx S) (S.a 38 (f_at S)).toNatClampNeg else f_valN S (f_at S) (f_e S) (f_r S) cc (f_size cc)
/-- the data are bytes -/
def WFd (S : MS) : Prop := ∀ j, j < 300 → ∃ b, b < 256 ∧ S.a 38 j = nI b
theorem WFd.b {S : MS} (h : WFd S) {j : Nat} (hj : j < 300) : (S.a 38 j).toNatClampNeg < 256 ∧ S.a 38 j = nI (S.a 38 j).toNatClampNeg := by
  obtain ⟨b, h1, h2⟩ := h j hj
  rw [h2, nI_clamp (by omega)]
  exact ⟨h1, rfl⟩
section Rec
variable {w : Wd} {M : MW} {S : MS} {z : Fx} {post : Option Value → MS → Prop}
/-- the loop over VIF and VIFEs, from pc 377 -/
theorem rc2 (hW : Wm w M) (C : Cx z RX7 cX7_oneRecord gw) (Y : Mty z M) (E : Ct z w gw yX7_oneRecord none 3 (40 * 3) (PM M post)) (hn : z.nL = 7) (r : Nat) (hr1 : r < 100) (fv dv cv : Int32) (R : MS)
    (kk : ∀ l4 l5 l6 : Option Value, X z 0 0 (MA M R) 475 [some (.ref M.o), some (.int fv), some (.int dv), some (.int cv), l4, l5, l6] []) :
    ∀ (t : Nat) (S : MS) (b : Int32) (i : Nat) (l6 : Option Value), i + t = 13 → WFp S → S.i 23 = nI r → (i ≤ 11 ∨ ¬ S.i 41 = 0) → f_vl r t S b i = R → X z 0 0 (MA M S) 377 [some (.ref M.o), some (.int fv), some (.int dv), some (.int cv), some (.int b), some (.int (nI i)), l6] [] := by
  intro t
  induction t with
  | zero =>
    intro S b i l6 hi hp hr hv e
    have e : S = R := e
    subst e
    have h41 : ¬ S.i 41 = 0 := hv.elim (fun q => absurd q (by omega)) id
    refine x_iload C dX7_oneRecord_377 rfl ?_
    refine x_bipush (v := 127) C dX7_oneRecord_379 (by decide) ?_
    refine x_icmp_le (tgt := 475) C dX7_oneRecord_381 (by decide) (fun c381 => ?_) (fun c381 => ?_)
    · skip
      exact kk _ _ _
    · skip
      refine x_aload_n C dX7_oneRecord_384 rfl ?_
      refine m_get C Y 41 (by decide) (by decide) wf_X7_204 dX7_oneRecord_385 ?_
      refine x_if_ne (tgt := 475) C dX7_oneRecord_388 (by decide) (fun c388 => ?_) (fun c388 => absurd c388 (fun q => h41 q))
      exact kk _ _ _
  | succ t ih =>
    intro S b i l6 hi hp hr hv e
    have c127 : b ≤ 127 ↔ ¬ 127 < b := Int32.not_lt.symm
    by_cases h1 : 127 < b ∧ S.i 41 = 0
    · rw [f_vl, if_pos h1] at e
      have hi11 : i ≤ 11 := hv.elim id (fun q => absurd h1.2 q)
      have hx := s_nx hW hp
      have hp1 := hp.nx
      have hr2 : (f_nx S).2.i 23 = nI r := (f_nx_i S (by decide) (by decide) (by decide)).trans hr
      have k11 : nI i = 11 ↔ i = 11 := by rw [show (11 : Int32) = nI 11 from rfl, nI_eq (by omega) (by omega)]
      have g11 : 11 ≤ nI i ↔ ¬ i < 11 := by rw [show (11 : Int32) = nI 11 from rfl, nI_leI (by omega) (by omega)]; omega
      have hf1 : i = 11 → ¬ (f_v2 (f_nx S).2 i).i 41 = 0 := by
        intro hi2
        unfold f_v2
        by_cases q : (f_nx S).2.i 41 = 0
        · rw [if_pos ⟨hi2, q⟩]; unfold f_bl; rw [if_pos q, MS.si_i, if_neg (by decide), MS.si_i, if_pos rfl]; decide
        · rw [if_neg (fun u => q u.2)]; exact q
      generalize f_nx S = nx at e hx hp1 hr2 hf1
      obtain ⟨b1, S1⟩ := nx
      have T425 : ∀ l6 : Option Value, X z 0 0 (MA M (f_v2 S1 i)) 425 [some (.ref M.o), some (.int fv), some (.int dv), some (.int cv), some (.int b1), some (.int (nI i)), l6] [] := by
        intro l6
        have hp2 : WFp (f_v2 S1 i) := hp1.same (f_v2_i _ _ (by decide) (by decide)) (f_v2_i _ _ (by decide) (by decide))
        have hr3 : (f_v2 S1 i).i 23 = nI r := (f_v2_i _ _ (by decide) (by decide)).trans hr2
        dsimp only at e hf1
        generalize f_v2 S1 i = S2 at e hp2 hr3 hf1 ⊢
        have ih2 := ih (f_v4 S2 r b1 i) b1 (i + 1) l6 (by omega) (hp2.same (f_v4_i _ _ _ _ _) (f_v4_i _ _ _ _ _)) ((f_v4_i _ _ _ _ _).trans hr3) (by
          rcases Nat.lt_or_ge i 11 with q | q
          · left; omega
          · right; rw [f_v4_i]; exact hf1 (by omega)) e
        unfold f_v4 at ih2
        have e30 : (S2.sa 31 (11 * r + i) b1).a 30 r = S2.a 30 r := sa_ne (by decide)
        refine x_iload C dX7_oneRecord_425 rfl ?_
        refine x_bipush (v := 11) C dX7_oneRecord_427 (by decide) ?_
        refine x_icmp_ge (tgt := 469) C dX7_oneRecord_429 (by decide) (fun c429 => ?_) (fun c429 => ?_)
        · skip
          refine x_iincE (v := nI (i + 1)) (L' := [some _, some _, some _, some _, some _, some _, _]) C dX7_oneRecord_469 rfl (nI_1 i) (by rw [hn]; decide) rfl ?_
          refine x_goto (tgt := 377) C dX7_oneRecord_472 (by decide) ?_
          first | (rw [if_pos ⟨Classical.not_not.mp (fun q => c429 (g11.mpr q)), c436⟩] at ih2; exact ih2) | (rw [if_neg (fun q => g11.mp c429 q.1)] at ih2; exact ih2) | (rw [if_neg (fun q => c436 q.2)] at ih2; exact ih2)
        · skip
          refine x_aload_n C dX7_oneRecord_432 rfl ?_
          refine m_get C Y 41 (by decide) (by decide) wf_X7_204 dX7_oneRecord_433 ?_
          refine x_if_ne (tgt := 469) C dX7_oneRecord_436 (by decide) (fun c436 => ?_) (fun c436 => ?_)
          · skip
            refine x_iincE (v := nI (i + 1)) (L' := [some _, some _, some _, some _, some _, some _, _]) C dX7_oneRecord_469 rfl (nI_1 i) (by rw [hn]; decide) rfl ?_
            refine x_goto (tgt := 377) C dX7_oneRecord_472 (by decide) ?_
            first | (rw [if_pos ⟨Classical.not_not.mp (fun q => c429 (g11.mpr q)), c436⟩] at ih2; exact ih2) | (rw [if_neg (fun q => g11.mp c429 q.1)] at ih2; exact ih2) | (rw [if_neg (fun q => c436 q.2)] at ih2; exact ih2)
          · skip
            refine x_aload_n C dX7_oneRecord_439 rfl ?_
            refine m_getA C Y 31 (by decide) (by decide) wf_X7_78 dX7_oneRecord_440 ?_
            refine x_bipush (v := 11) C dX7_oneRecord_443 (by decide) ?_
            refine x_aload_n C dX7_oneRecord_445 rfl ?_
            refine m_get C Y 23 (by decide) (by decide) wf_X7_190 dX7_oneRecord_446 ?_
            refine x_imul C dX7_oneRecord_449 ?_
            refine x_iload C dX7_oneRecord_450 rfl ?_
            refine x_iadd C dX7_oneRecord_452 ?_
            refine x_iload C dX7_oneRecord_453 rfl ?_
            refine m_istN C Y hW.2.1 31 (11 * r + i) (by decide) dX7_oneRecord_455 (by rw [hr3]; simp only [nI_lit, nI_add, pk_mul]) (by simp only [m_len]; have := Classical.not_not.mp (fun q => c429 (g11.mpr q)); omega) ?_
            refine x_aload_n C dX7_oneRecord_456 rfl ?_
            refine m_getA C Y 30 (by decide) (by decide) wf_X7_75 dX7_oneRecord_457 ?_
            refine x_aload_n C dX7_oneRecord_460 rfl ?_
            refine m_get C Y 23 (by decide) (by decide) wf_X7_190 dX7_oneRecord_461 ?_
            refine x_dup2 C dX7_oneRecord_464 rfl rfl ?_
            refine m_ildN C Y 30 (r) (by decide) dX7_oneRecord_465 hr3 (by simp only [m_len]; omega) ?_
            rw [e30]
            refine x_iconst (v := 1) C dX7_oneRecord_466 (by decide) ?_
            refine x_iadd C dX7_oneRecord_467 ?_
            refine m_istN C Y hW.2.1 30 (r) (by decide) dX7_oneRecord_468 hr3 (by simp only [m_len]; omega) ?_
            refine x_iincE (v := nI (i + 1)) (L' := [some _, some _, some _, some _, some _, some _, _]) C dX7_oneRecord_469 rfl (nI_1 i) (by rw [hn]; decide) rfl ?_
            refine x_goto (tgt := 377) C dX7_oneRecord_472 (by decide) ?_
            first | (rw [if_pos ⟨Classical.not_not.mp (fun q => c429 (g11.mpr q)), c436⟩] at ih2; exact ih2) | (rw [if_neg (fun q => g11.mp c429 q.1)] at ih2; exact ih2) | (rw [if_neg (fun q => c436 q.2)] at ih2; exact ih2)
      unfold f_v2 at T425
      refine x_iload C dX7_oneRecord_377 rfl ?_
      refine x_bipush (v := 127) C dX7_oneRecord_379 (by decide) ?_
      refine x_icmp_le (tgt := 475) C dX7_oneRecord_381 (by decide) (fun c381 => absurd c381 (fun q => c127.mp q h1.1)) (fun c381 => ?_)
      refine x_aload_n C dX7_oneRecord_384 rfl ?_
      refine m_get C Y 41 (by decide) (by decide) wf_X7_204 dX7_oneRecord_385 ?_
      refine x_if_ne (tgt := 475) C dX7_oneRecord_388 (by decide) (fun c388 => absurd c388 (not_not_intro h1.2)) (fun c388 => ?_)
      refine x_aload_n C dX7_oneRecord_391 rfl ?_
      refine m_callF C Y hW E (hx) rfl md_X7_next wi_X7_next ws_X7_next wm_X7_227 dX7_oneRecord_392 rfl (by decide) (by decide) rfl (by simp [Value.category]) ?_
      refine x_istoreE (L' := [some _, some _, some _, some _, some _, some _, _]) C dX7_oneRecord_395 (by rw [hn]; decide) rfl ?_
      refine x_iload C dX7_oneRecord_397 rfl ?_
      refine x_bipush (v := 11) C dX7_oneRecord_399 (by decide) ?_
      refine x_icmp_ne (tgt := 425) C dX7_oneRecord_401 (by decide) (fun c401 => ?_) (fun c401 => ?_)
      · skip
        first | (rw [if_pos ⟨k11.mp c401, c408⟩] at T425; exact T425 _) | (rw [if_neg (fun q => c401 (k11.mpr q.1))] at T425; exact T425 _) | (rw [if_neg (fun q => c408 q.2)] at T425; exact T425 _)
      · skip
        refine x_aload_n C dX7_oneRecord_404 rfl ?_
        refine m_get C Y 41 (by decide) (by decide) wf_X7_204 dX7_oneRecord_405 ?_
        refine x_if_ne (tgt := 425) C dX7_oneRecord_408 (by decide) (fun c408 => ?_) (fun c408 => ?_)
        · skip
          first | (rw [if_pos ⟨k11.mp c401, c408⟩] at T425; exact T425 _) | (rw [if_neg (fun q => c401 (k11.mpr q.1))] at T425; exact T425 _) | (rw [if_neg (fun q => c408 q.2)] at T425; exact T425 _)
        · skip
          refine x_aload_n C dX7_oneRecord_411 rfl ?_
          refine x_bipush (v := 6) C dX7_oneRecord_412 (by decide) ?_
          refine x_aload_n C dX7_oneRecord_414 rfl ?_
          refine m_get C Y 40 (by decide) (by decide) wf_X7_221 dX7_oneRecord_415 ?_
          refine x_iconst (v := 1) C dX7_oneRecord_418 (by decide) ?_
          refine x_isub C dX7_oneRecord_419 ?_
          refine m_callF C Y hW E (s_blame hW _ _) rfl md_X7_blame wi_X7_blame ws_X7_blame wm_X7_207 dX7_oneRecord_420 rfl (by decide) (by decide) rfl (by simp [Value.category]) ?_
          refine x_istoreE (L' := [some _, some _, some _, some _, some _, some _, some _]) C dX7_oneRecord_423 (by rw [hn]; decide) rfl ?_
          first | (rw [if_pos ⟨k11.mp c401, c408⟩] at T425; exact T425 _) | (rw [if_neg (fun q => c401 (k11.mpr q.1))] at T425; exact T425 _) | (rw [if_neg (fun q => c408 q.2)] at T425; exact T425 _)
    · rw [f_vl, if_neg h1] at e
      subst e
      refine x_iload C dX7_oneRecord_377 rfl ?_
      refine x_bipush (v := 127) C dX7_oneRecord_379 (by decide) ?_
      refine x_icmp_le (tgt := 475) C dX7_oneRecord_381 (by decide) (fun c381 => ?_) (fun c381 => ?_)
      · skip
        exact kk _ _ _
      · skip
        refine x_aload_n C dX7_oneRecord_384 rfl ?_
        refine m_get C Y 41 (by decide) (by decide) wf_X7_204 dX7_oneRecord_385 ?_
        refine x_if_ne (tgt := 475) C dX7_oneRecord_388 (by decide) (fun c388 => ?_) (fun c388 => ?_)
        · skip
          exact kk _ _ _
        · skip
          exact absurd ⟨Classical.not_not.mp (fun q => c381 (c127.mpr q)), c388⟩ h1
theorem s_value (hW : Wm w M) (cc : Nat) (hc : cc < 15) (hc8 : cc ≠ 8) (hp : WFp S) (hd : WFd S) (hr : S.i 23 = nI (f_r S)) (hr1 : f_r S < 100) (ht : S.i 34 = nI (f_tx S)) (ht1 : f_tx S + 300 ≤ 26000) (h41 : S.i 41 = 0) : TF w M yX7_value cX7_value 8 none 2 [.int (nI cc)] S none (f_value S cc) := by
  have h13 := s_val_13 (S := S) hW (f_at S) (f_e S) (f_r S) (f_tx S) (S.a 38 (f_at S)).toNatClampNeg hp.1 hp.2.1 hp.2.2.2 hp.2.2.1 hr hr1 ht ht1 h41 (fun g => hd.b (by have := hp.2.2; omega))
  unfold f_value
  match cc, hc, hc8 with
  | 0, _, _ => exact s_val_0 hW _ _ _ hp.1 hp.2.1 hp.2.2.2 hp.2.2.1 hr hr1
  | 1, _, _ => exact s_val_1 hW _ _ _ hp.1 hp.2.1 hp.2.2.2 hp.2.2.1 hr hr1
  | 2, _, _ => exact s_val_2 hW _ _ _ hp.1 hp.2.1 hp.2.2.2 hp.2.2.1 hr hr1
  | 3, _, _ => exact s_val_3 hW _ _ _ hp.1 hp.2.1 hp.2.2.2 hp.2.2.1 hr hr1
  | 4, _, _ => exact s_val_4 hW _ _ _ hp.1 hp.2.1 hp.2.2.2 hp.2.2.1 hr hr1
  | 5, _, _ => exact s_val_5 hW _ _ _ hp.1 hp.2.1 hp.2.2.2 hp.2.2.1 hr hr1
  | 6, _, _ => exact s_val_6 hW _ _ _ hp.1 hp.2.1 hp.2.2.2 hp.2.2.1 hr hr1
  | 7, _, _ => exact s_val_7 hW _ _ _ hp.1 hp.2.1 hp.2.2.2 hp.2.2.1 hr hr1
  | 8, _, h => exact absurd rfl h
  | 9, _, _ => exact s_val_9 hW _ _ _ hp.1 hp.2.1 hp.2.2.2 hp.2.2.1 hr hr1
  | 10, _, _ => exact s_val_10 hW _ _ _ hp.1 hp.2.1 hp.2.2.2 hp.2.2.1 hr hr1
  | 11, _, _ => exact s_val_11 hW _ _ _ hp.1 hp.2.1 hp.2.2.2 hp.2.2.1 hr hr1
  | 12, _, _ => exact s_val_12 hW _ _ _ hp.1 hp.2.1 hp.2.2.2 hp.2.2.1 hr hr1
  | 13, _, _ => exact h13
  | 14, _, _ => exact s_val_14 hW _ _ _ hp.1 hp.2.1 hp.2.2.2 hp.2.2.1 hr hr1
  | n + 15, h, _ => exact absurd h (by omega)
end Rec
