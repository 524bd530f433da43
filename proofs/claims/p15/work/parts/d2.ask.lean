/-! Meter: asked, and its page written, told whole. -/
section Met
variable {w : Wd} {c : Nat → ClassId} {h : PH} {m an aa pg sz t n j N : Nat} {ad : Int64} {pr se pt bt ac nb : Int32} {g s P : Nat → Int32} {gp : Nat → Option Nat}
theorem t_askX (hX : Wx w c) (B : h m = some (mF ad pr se pg sz pt bt ac)) (hj : j < 3) (Bs : h sz = some (.inl (c 0, 3, .inl s))) (hp : (if mPg0 pt bt nb < mPages s then mPg0 pt bt nb else 0) = nI j) (hN : s j = nI N) (N60 : N ≤ 60) (Bp : h pg = some (.inl (c 5, 3, .inr (.inr (.inr (.inr gp)))))) (gt : gp j = some t) (Bt : h t = some (.inl (c 0, 60, .inl P))) (R : RW c h an aa g n)
    (am : m ≠ an ∧ m ≠ aa) (az : sz ≠ an ∧ sz ≠ aa) (ap : pg ≠ an ∧ pg ≠ aa) (at_ : t ≠ an ∧ t ≠ aa) (d1 : sz ≠ m) (d2 : pg ≠ m) (d3 : t ≠ m) (k a : Int32) (hk : (k = 91 ∧ nb = 0) ∨ (k = 123 ∧ nb = 1)) :
    TC w yX2_hearsShort cX2_hearsShort 5 (some .boolean) 4 [.ref m, .int k, .int a, .ref an] h (some (.int 1)) (hs (rl c (hs h m (mF ad pr se pg sz (nI j) nb ac)) an aa g (finC g (bodyC ad pr ac P N (decide (nI j + 1 < mPages s))))) m (mF ad pr se pg sz (nI j) nb ((ac + 1) &&& 255))) := by
  have hW := hX.1
  refine TC.intro hW rfl (by decide +kernel) (Nat.le_of_ble_eq_true rfl) (fun z C Y E hn => ?_)
  have Q1 : RW c (hs h m (mF ad pr se pg sz (nI j) nb ac)) an aa g n := ⟨R.1, (hs_ne (Ne.symm am.1)).trans R.2.1, (hs_ne (Ne.symm am.2)).trans R.2.2.1, R.2.2.2⟩
  have tw := t_writeX hX (h := hs h m (mF ad pr se pg sz (nI j) nb ac)) (bt := nb) (hs_self ..) hj ((hs_ne d1).trans Bs) hN N60 ((hs_ne d2).trans Bp) gt ((hs_ne d3).trans Bt) Q1 am az ap at_
  generalize finC g (bodyC ad pr ac P N (decide (nI j + 1 < mPages s))) = FT at E tw
  have T51 : X z 0 0 (EQ h) 51 [some (.ref m), some (.int k), some (.int a), some (.ref an), none] [] := by
    refine x_iload_n C dX2_hearsShort_51 rfl ?_
    refine x_iconst (v := 5) C dX2_hearsShort_52 (by decide) ?_
    refine x_ishr C dX2_hearsShort_53 ?_
    refine x_iconst (v := 1) C dX2_hearsShort_54 (by decide) ?_
    refine x_iand C dX2_hearsShort_55 ?_
    have ek : k >>> ((5 : Int32) &&& 31) &&& 1 = nb := by rcases hk with ⟨rfl, rfl⟩ | ⟨rfl, rfl⟩ <;> decide
    rw [ek]
    refine o_istoreE (L' := [some _, some _, some _, some _, some _]) C dX2_hearsShort_56 (by rw [hn]; decide) rfl ?_
    refine x_aload_n C dX2_hearsShort_58 rfl ?_
    refine x_aload_n C dX2_hearsShort_59 rfl ?_
    refine x_iload C dX2_hearsShort_60 rfl ?_
    have tp := t_pageToTell hW B Bs nb
    rw [hp] at tp
    refine u_callV (st := [.ref m]) C Y hW E.cs tp md_X2_pageToTell wi_X2_pageToTell ws_X2_pageToTell wm_X2_66 dX2_hearsShort_62 rfl (by decide) (by decide) B rfl rfl (by simp [Value.category]) ?_
    refine e_put C Y kd_X2 5 (by decide) rfl wf_X2_24 dX2_hearsShort_65 B (Nat.le_of_ble_eq_true rfl) rfl rfl rfl ?_
    refine x_aload_n C dX2_hearsShort_68 rfl ?_
    refine x_iload C dX2_hearsShort_69 rfl ?_
    refine e_put C Y kd_X2 6 (by decide) rfl wf_X2_28 dX2_hearsShort_71 (hs_self ..) (Nat.le_of_ble_eq_true rfl) rfl rfl (hs_hs ..) ?_
    refine x_aload_n C dX2_hearsShort_74 rfl ?_
    refine x_aload_n C dX2_hearsShort_75 rfl ?_
    refine u_callV (st := []) C Y hW E.cs tw md_X2_writeAnswer wi_X2_writeAnswer ws_X2_writeAnswer wm_X2_69 dX2_hearsShort_76 rfl (by decide) (by decide) (hs_self ..) rfl rfl (by decide) ?_
    have B2 : rl c (hs h m (mF ad pr se pg sz (nI j) nb ac)) an aa g FT m = some (mF ad pr se pg sz (nI j) nb ac) := (rw_ne am.1 am.2).trans (hs_self ..)
    refine x_aload_n C dX2_hearsShort_79 rfl ?_
    refine x_aload_n C dX2_hearsShort_80 rfl ?_
    refine e_get C Y kd_X2 7 (by decide) wf_X2_31 dX2_hearsShort_81 B2 rfl ?_
    refine x_iconst (v := 1) C dX2_hearsShort_84 (by decide) ?_
    refine x_iadd C dX2_hearsShort_85 ?_
    refine x_sipush (v := 255) C dX2_hearsShort_86 (by decide) ?_
    refine x_iand C dX2_hearsShort_89 ?_
    refine e_put C Y kd_X2 7 (by decide) rfl wf_X2_31 dX2_hearsShort_90 B2 (Nat.le_of_ble_eq_true rfl) rfl rfl rfl ?_
    refine x_iconst (v := 1) C dX2_hearsShort_93 (by decide) ?_
    exact e_zret C E dX2_hearsShort_94 (by decide) rfl rfl
  refine x_iload_n C dX2_hearsShort_0 rfl ?_
  refine x_bipush (v := 64) C dX2_hearsShort_1 (by decide) ?_
  refine x_icmp_ne (tgt := 39) C dX2_hearsShort_3 (by decide) (fun _ => ?_) (fun q => by rcases hk with ⟨rfl, -⟩ | ⟨rfl, -⟩ <;> exact absurd q (by decide))
  refine x_iload_n C dX2_hearsShort_39 rfl ?_
  refine x_bipush (v := 91) C dX2_hearsShort_40 (by decide) ?_
  refine x_icmp_eq (tgt := 51) C dX2_hearsShort_42 (by decide) (fun _ => T51) (fun q => ?_)
  refine x_iload_n C dX2_hearsShort_45 rfl ?_
  refine x_bipush (v := 123) C dX2_hearsShort_46 (by decide) ?_
  exact x_icmp_ne (tgt := 95) C dX2_hearsShort_48 (by decide) (fun q2 => absurd (hk.resolve_left (fun q3 => q q3.1)).1 q2) (fun _ => T51)
def pcF (P fb : Nat → Int32) (i : Nat) : Nat → Int32 := fun b => if b < i then fb b else P b
theorem pcF_s (P fb : Nat → Int32) (i : Nat) : upd (pcF P fb i) i (fb i) = pcF P fb (i + 1) := by
  funext b
  unfold pcF
  simp only [upd]
  by_cases q : b = i
  · subst q; simp
  · by_cases q2 : b < i
    · simp [q, q2, Nat.lt_succ_of_lt q2]
    · simp [q, q2, show ¬ b < i + 1 by omega]
theorem t_setPageX (hX : Wx w c) (B : h m = some (mF ad pr se pg sz pt bt ac)) (hj : j < 3) (Bs : h sz = some (.inl (c 0, 3, .inl s))) (Bp : h pg = some (.inl (c 5, 3, .inr (.inr (.inr (.inr gp)))))) (gt : gp j = some t) (Bt : h t = some (.inl (c 0, 60, .inl P))) {b ba : Nat} {fb : Nat → Int32} (R : RW c h b ba fb N) (N60 : N ≤ 60)
    (d1 : m ≠ t) (d2 : sz ≠ t) (d3 : pg ≠ t) (d4 : b ≠ t) (d5 : ba ≠ t) : TC w yX2_setPage cX2_setPage 5 none 2 [.ref m, .int (nI j), .ref b] h none (hs (hs h t (.inl (c 0, 60, .inl (pcF P fb N)))) sz (.inl (c 0, 3, .inl (upd s j (nI N))))) := by
  have hW := hX.1
  refine TC.intro hW rfl (by decide +kernel) (Nat.le_of_ble_eq_true rfl) (fun z C Y E hn => ?_)
  obtain ⟨t5, ht5⟩ : ∃ t : Nat, z.tys[t]? = some (c 5, .array .int) := by rw [E.2.2.2.1]; exact hX.2.2.2.2.2
  have es : (if (60 : Int32) < nI N then (60 : Int32) else nI N) = nI N := if_neg (fun q => absurd ((nI_ltI (a := 60) (by decide) (by omega)).mp q) (by omega))
  have LP : ∀ (r i : Nat), i + r = N → X z 0 0 (EQ (hs h t (.inl (c 0, 60, .inl (pcF P fb i))))) 23 [some (.ref m), some (.int (nI j)), some (.ref b), some (.int (nI N)), some (.int (nI i))] [] := by
    intro r
    induction r with
    | zero =>
      intro i hi
      obtain rfl : i = N := by omega
      refine x_iload C dX2_setPage_23 rfl ?_
      refine x_iload_n C dX2_setPage_25 rfl ?_
      refine x_icmp_ge (tgt := 50) C dX2_setPage_26 (by decide) (fun _ => ?_) (fun q => absurd (Int32.le_refl _) q)
      refine x_aload_n C dX2_setPage_50 rfl ?_
      refine e_get C Y kd_X2 4 (by decide) wf_X2_20 dX2_setPage_51 ((hs_ne d1).trans B) rfl ?_
      refine x_iload_n C dX2_setPage_54 rfl ?_
      refine x_iload_n C dX2_setPage_55 rfl ?_
      refine e_ist C Y dX2_setPage_56 ((hs_ne d2).trans Bs) (vp_in_nI hj (by decide)) rfl ?_
      rw [nI_clamp (by omega)]
      exact e_vret C E dX2_setPage_57 rfl rfl
    | succ r ih =>
      intro i hi
      have Rh : RW c (hs h t (.inl (c 0, 60, .inl (pcF P fb i)))) b ba fb N := ⟨R.1, (hs_ne d4).trans R.2.1, (hs_ne d5).trans R.2.2.1, R.2.2.2⟩
      have ra := r_at hW Rh (nI i)
      rw [rAt_in (show i < N by omega) R.2.2.2] at ra
      refine x_iload C dX2_setPage_23 rfl ?_
      refine x_iload_n C dX2_setPage_25 rfl ?_
      refine x_icmp_ge (tgt := 50) C dX2_setPage_26 (by decide) (fun q => absurd q (Int32.not_le.mpr (nI_lt (show i < N by omega) (by omega)))) (fun _ => ?_)
      refine x_aload_n C dX2_setPage_29 rfl ?_
      refine e_get C Y kd_X2 3 (by decide) wf_X2_17 dX2_setPage_30 ((hs_ne d1).trans B) rfl ?_
      refine x_iload_n C dX2_setPage_33 rfl ?_
      refine e_ald2 C ht5 dX2_setPage_34 ((hs_ne d3).trans Bp) rfl hj (by decide) gt ?_
      refine x_iload C dX2_setPage_35 rfl ?_
      refine x_aload_n C dX2_setPage_37 rfl ?_
      refine x_iload C dX2_setPage_38 rfl ?_
      refine u_callV (st := [.int (nI i), .ref t]) C Y hW E.cs ra md_X5_at wi_X5_at ws_X5_at wm_X2_53 dX2_setPage_40 rfl (by decide) (by decide) Rh.2.1 rfl rfl (by simp [Value.category]) ?_
      refine e_ist C Y dX2_setPage_43 (hs_self ..) (vp_in_nI (show i < 60 by omega) (by decide)) (hs_hs ..) ?_
      rw [nI_clamp (by omega), pcF_s]
      refine o_iincE (v := nI (i + 1)) (L' := [some _, some _, some _, some _, some _]) C dX2_setPage_44 rfl (nI_1 i) (by rw [hn]; decide) rfl ?_
      refine x_goto (tgt := 23) C dX2_setPage_47 (by decide) ?_
      exact ih (i + 1) (by omega)
  refine x_iload_n C dX2_setPage_0 rfl ?_
  refine x_if_lt (tgt := 9) C dX2_setPage_1 (by decide) (fun q => absurd q (nI_pos (by omega))) (fun _ => ?_)
  refine x_iload_n C dX2_setPage_4 rfl ?_
  refine x_iconst (v := 3) C dX2_setPage_5 (by decide) ?_
  refine x_icmp_lt (tgt := 10) C dX2_setPage_6 (by decide) (fun _ => ?_) (fun q => absurd (nI_lt hj (by decide)) q)
  refine x_aload_n C dX2_setPage_10 rfl ?_
  refine u_callV (st := []) C Y hW E.cs (r_size hW R) md_X5_size wi_X5_size ws_X5_size wm_X2_41 dX2_setPage_11 rfl (by decide) (by decide) R.2.1 rfl rfl (by decide) ?_
  refine x_bipush (v := 60) C dX2_setPage_14 (by decide) ?_
  refine x_min C wm_X2_47 dX2_setPage_16 (by rw [E.fr_]; decide) (by rw [E.lo_]; decide) ?_
  rw [es]
  refine o_istore_nE (L' := [some _, some _, some _, some _, none]) C dX2_setPage_19 (by rw [hn]; decide) rfl ?_
  refine x_iconst (v := 0) C dX2_setPage_20 (by decide) ?_
  refine o_istoreE (L' := [some _, some _, some _, some _, some _]) C dX2_setPage_21 (by rw [hn]; decide) rfl ?_
  have := LP N 0 (by omega)
  rw [show hs h t (.inl (c 0, 60, .inl (pcF P fb 0))) = h from hs_same (by rw [Bt]; rfl)] at this
  exact this
end Met
