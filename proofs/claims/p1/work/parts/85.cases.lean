/-! The law's body: the cases of one call. -/
theorem lt12 {k : Int32} : k < 12 ↔ k ≤ 11 := by
  rw [Int32.le_iff_toInt_le, Int32.lt_iff_toInt_lt, show (12 : Int32).toInt = 12 from by decide, show (11 : Int32).toInt = 11 from by decide]
  omega
theorem no1 {k : Int32} (h1 : (0 : Int32) ≤ k) (h2 : k ≤ -1) : False := absurd (Int32.le_trans h1 h2) (by decide)
theorem kg {k ad i mk v d : Int32} : k_good ad i mk v d ↔ g_good Z0 k ad i mk v d := by
  constructor
  · intro g
    exact ⟨⟨⟨g.1.1, mk_rng g.2.2.1.1 g.2.2.1.2, g.2.1, g.2.2.1, g.2.2.2⟩, g.1.2⟩, z_free ..⟩
  · intro g
    exact ⟨⟨g.1.1.1, g.1.2⟩, g.1.1.2.2.1, g.1.1.2.2.2.1, g.1.1.2.2.2.2⟩
theorem ty_0 (b : Int64) (m : Nat) (hm : 1 ≤ m ∧ m ≤ 8) : (f_ty b m 0 (Z0.si 0 0)).i 0 = 0 := by
  rcases (show m = 1 ∨ m = 2 ∨ m = 3 ∨ m = 4 ∨ m = 5 ∨ m = 6 ∨ m = 7 ∨ m = 8 by omega) with rfl | rfl | rfl | rfl | rfl | rfl | rfl | rfl <;> rfl
/-- what is known at the law's loop, one call ahead -/
def LC (w : Wd) (c : Nat → ClassId) (z : Fx) (b : Nat) (xs : Nat → Int32) (a : Nat → Nat) (o : Nat) (ad : Nat → Nat) (u : Nat) (h : PH) : Prop :=
  Wx w c ∧ Cx z RL code gw ∧ Cs z w 2048 84000 ∧ LZ z b ∧ va_X b 7 xs z.s z.s.heap ∧ LI c a o ad u h ∧ ∀ (A : PH → Prop) (l5 l6 l7 : Option Value), X z 0 0 A 993 [some (.ref b), some (.ref (a 0)), some (.ref o), some (.ref u), some (.int 0), l5, l6, l7] []
section Cases
variable {w : Wd} {c : Nat → ClassId} {z : Fx} {b : Nat} {xs : Nat → Int32} {a : Nat → Nat} {o : Nat} {ad : Nat → Nat} {u : Nat} {h : PH}
theorem c_typed (Q : LC w c z b xs a o ad u h) : X z 6 194 (EQ h) 260 [some (.ref b), some (.ref (a 0)), some (.ref o), some (.ref u), some (.int 0), none, none, none] [] := by
  obtain ⟨hX, C, E, hz, S, I, K⟩ := Q
  have Y := Cty.of hX.1 E
  have hn : z.nL = 8 := hz.2.2.2.1
  have F := I.1
  have hoa : ∀ i, i < 11 → u ≠ a i := fun i hi => (I.2.2.2.2.1 i hi).1
  refine x_aload_n C dL_law_260 rfl ?_
  refine x_aload_n C dL_law_261 rfl ?_
  refine x_iload C dL_law_262 rfl ?_
  refine x_iconst (v := 1) C dL_law_264 (by decide) ?_
  refine x_iadd C dL_law_265 ?_
  refine w_sld C hz S dL_law_266 (vp_in_nI (n := 1) (N := 7) (by decide) (by decide)) ?_
  refine x_aload_n C dL_law_267 rfl ?_
  refine k_callSW (kc := 5) (ks := 188) (st := []) C E hX.1.1 gw_good (l_typed hX F I.2.1 hoa _) mw_L_typed wt_L_typed wm_L_78 dL_law_268 rfl (by decide) (by decide) rfl (by simp) (fun r => X.opn (fun g hg => ?_))
  obtain ⟨rfl, e⟩ := hg
  subst e
  refine o_istoreE (L' := [some _, some _, some _, some _, some _, some _, none, none]) C dL_law_271 (by rw [hn]; decide) rfl ?_
  refine x_aload_n C dL_law_273 rfl ?_
  refine x_aload_n C dL_law_274 rfl ?_
  refine x_iload C dL_law_275 rfl ?_
  refine x_iconst (v := 1) C dL_law_277 (by decide) ?_
  refine x_iadd C dL_law_278 ?_
  refine w_sld C hz S dL_law_279 (vp_in_nI (n := 1) (N := 7) (by decide) (by decide)) ?_
  have hM : MA (c, o, ad, g) Z0 g := I.go (fun q _ _ _ => rfl)
  have hWm := I.wm hX g
  refine X.heap (A' := MA (c, o, ad, g) Z0) ?_ (fun q e => by rw [e]; exact hM)
  refine w_callM (st := []) C E Y.1 hWm (s_typed hWm 0 rfl (by decide) _) rfl md_X7_typed wi_X7_typed ws_X7_typed wm_L_81 dL_law_280 rfl (by decide) (by decide) rfl (by simp [Value.category]) ?_
  refine o_istoreE (L' := [some _, some _, some _, some _, some _, some _, some _, none]) C dL_law_283 (by rw [hn]; decide) rfl ?_
  refine x_aload_n C dL_law_285 rfl ?_
  refine w_callM (st := []) C E Y.1 hWm (s_thrown hWm) rfl md_X7_thrown wi_X7_thrown ws_X7_thrown wm_L_70 dL_law_286 rfl (by decide) (by decide) rfl (by simp) ?_
  refine x_iload C dL_law_289 rfl ?_
  refine x_icmp_eq (tgt := 296) C dL_law_291 (by decide) (fun _ => ?_) (fun q => absurd (if_pos (fun q => no1 q.1 q.2)) q)
  refine x_iload C dL_law_296 rfl ?_
  refine x_if_ne (tgt := 313) C dL_law_298 (by decide) (fun _ => ?_) (fun q => absurd q (by decide))
  refine x_goto (tgt := 993) C dL_law_313 (by decide) ?_
  exact (K _ _ _ _).room (Nat.zero_le _) (Nat.zero_le _)
theorem c_page (Q : LC w c z b xs a o ad u h) : X z 6 194 (EQ h) 477 [some (.ref b), some (.ref (a 0)), some (.ref o), some (.ref u), some (.int 0), none, none, none] [] := by
  obtain ⟨hX, C, E, hz, S, I, K⟩ := Q
  have Y := Cty.of hX.1 E
  have hn : z.nL = 8 := hz.2.2.2.1
  have F := I.1
  have hoa : ∀ i, i < 11 → u ≠ a i := fun i hi => (I.2.2.2.2.1 i hi).1
  refine x_aload_n C dL_law_477 rfl ?_
  refine x_aload_n C dL_law_478 rfl ?_
  refine x_iload C dL_law_479 rfl ?_
  refine x_iconst (v := 1) C dL_law_481 (by decide) ?_
  refine x_iadd C dL_law_482 ?_
  refine w_sld C hz S dL_law_483 (vp_in_nI (n := 1) (N := 7) (by decide) (by decide)) ?_
  refine x_aload_n C dL_law_484 rfl ?_
  refine x_iload C dL_law_485 rfl ?_
  refine x_iconst (v := 2) C dL_law_487 (by decide) ?_
  refine x_iadd C dL_law_488 ?_
  refine w_sld C hz S dL_law_489 (vp_in_nI (n := 2) (N := 7) (by decide) (by decide)) ?_
  refine x_aload_n C dL_law_490 rfl ?_
  refine k_callSW (kc := 5) (ks := 188) (st := []) C E hX.1.1 gw_good (l_page hX F I.2.1 hoa _ _) mw_L_page wt_L_page wm_L_89 dL_law_491 rfl (by decide) (by decide) rfl (by simp) (fun r => X.opn (fun g hg => ?_))
  obtain ⟨rfl, e⟩ := hg
  subst e
  refine o_istoreE (L' := [some _, some _, some _, some _, some _, some _, none, none]) C dL_law_494 (by rw [hn]; decide) rfl ?_
  refine x_aload_n C dL_law_496 rfl ?_
  refine x_aload_n C dL_law_497 rfl ?_
  refine x_iload C dL_law_498 rfl ?_
  refine x_iconst (v := 1) C dL_law_500 (by decide) ?_
  refine x_iadd C dL_law_501 ?_
  refine w_sld C hz S dL_law_502 (vp_in_nI (n := 1) (N := 7) (by decide) (by decide)) ?_
  refine x_aload_n C dL_law_503 rfl ?_
  refine x_iload C dL_law_504 rfl ?_
  refine x_iconst (v := 2) C dL_law_506 (by decide) ?_
  refine x_iadd C dL_law_507 ?_
  refine w_sld C hz S dL_law_508 (vp_in_nI (n := 2) (N := 7) (by decide) (by decide)) ?_
  have hM : MA (c, o, ad, g) Z0 g := I.go (fun q _ _ _ => rfl)
  have hWm := I.wm hX g
  refine X.heap (A' := MA (c, o, ad, g) Z0) ?_ (fun q e => by rw [e]; exact hM)
  refine w_callM (st := []) C E Y.1 hWm (s_page_x hWm _ _ 0 rfl (by decide) (fun q => q.1.1.2 rfl)) rfl md_X7_page wi_X7_page ws_X7_page wm_L_92 dL_law_509 rfl (by decide) (by decide) rfl (by simp [Value.category]) ?_
  refine o_istoreE (L' := [some _, some _, some _, some _, some _, some _, some _, none]) C dL_law_512 (by rw [hn]; decide) rfl ?_
  refine x_aload_n C dL_law_514 rfl ?_
  refine w_callM (st := []) C E Y.1 hWm (s_thrown hWm) rfl md_X7_thrown wi_X7_thrown ws_X7_thrown wm_L_70 dL_law_515 rfl (by decide) (by decide) rfl (by simp) ?_
  refine x_iload C dL_law_518 rfl ?_
  refine x_icmp_eq (tgt := 525) C dL_law_520 (by decide) (fun _ => ?_) (fun q => absurd (if_pos (fun q => q.1.2 rfl)) q)
  refine x_iload C dL_law_525 rfl ?_
  refine x_if_ne (tgt := 542) C dL_law_527 (by decide) (fun _ => ?_) (fun q => absurd q (by decide))
  refine x_goto (tgt := 993) C dL_law_542 (by decide) ?_
  exact (K _ _ _ _).room (Nat.zero_le _) (Nat.zero_le _)
theorem c_found (Q : LC w c z b xs a o ad u h) : X z 6 194 (EQ h) 639 [some (.ref b), some (.ref (a 0)), some (.ref o), some (.ref u), some (.int 0), none, none, none] [] := by
  obtain ⟨hX, C, E, hz, S, I, K⟩ := Q
  have Y := Cty.of hX.1 E
  have hn : z.nL = 8 := hz.2.2.2.1
  have F := I.1
  have hoa : ∀ i, i < 11 → u ≠ a i := fun i hi => (I.2.2.2.2.1 i hi).1
  refine x_aload_n C dL_law_639 rfl ?_
  refine x_aload_n C dL_law_640 rfl ?_
  refine x_iload C dL_law_641 rfl ?_
  refine x_iconst (v := 1) C dL_law_643 (by decide) ?_
  refine x_iadd C dL_law_644 ?_
  refine w_sld C hz S dL_law_645 (vp_in_nI (n := 1) (N := 7) (by decide) (by decide)) ?_
  refine x_aload_n C dL_law_646 rfl ?_
  refine x_iload C dL_law_647 rfl ?_
  refine x_iconst (v := 2) C dL_law_649 (by decide) ?_
  refine x_iadd C dL_law_650 ?_
  refine w_sld C hz S dL_law_651 (vp_in_nI (n := 2) (N := 7) (by decide) (by decide)) ?_
  refine x_aload_n C dL_law_652 rfl ?_
  refine k_callSW (kc := 5) (ks := 188) (st := []) C E hX.1.1 gw_good (l_found hX F I.2.1 hoa _ _) mw_L_found wt_L_found wm_L_104 dL_law_653 rfl (by decide) (by decide) rfl (by simp) (fun r => X.opn (fun g hg => ?_))
  obtain ⟨rfl, e⟩ := hg
  subst e
  refine o_istoreE (L' := [some _, some _, some _, some _, some _, some _, none, none]) C dL_law_656 (by rw [hn]; decide) rfl ?_
  refine x_aload_n C dL_law_658 rfl ?_
  refine x_aload_n C dL_law_659 rfl ?_
  refine x_iload C dL_law_660 rfl ?_
  refine x_iconst (v := 1) C dL_law_662 (by decide) ?_
  refine x_iadd C dL_law_663 ?_
  refine w_sld C hz S dL_law_664 (vp_in_nI (n := 1) (N := 7) (by decide) (by decide)) ?_
  refine x_aload_n C dL_law_665 rfl ?_
  refine x_iload C dL_law_666 rfl ?_
  refine x_iconst (v := 2) C dL_law_668 (by decide) ?_
  refine x_iadd C dL_law_669 ?_
  refine w_sld C hz S dL_law_670 (vp_in_nI (n := 2) (N := 7) (by decide) (by decide)) ?_
  have hM : MA (c, o, ad, g) Z0 g := I.go (fun q _ _ _ => rfl)
  have hWm := I.wm hX g
  refine X.heap (A' := MA (c, o, ad, g) Z0) ?_ (fun q e => by rw [e]; exact hM)
  refine w_callM (st := []) C E Y.1 hWm (s_found hWm 0 rfl (by decide) _ _) rfl md_X7_found wi_X7_found ws_X7_found wm_L_106 dL_law_671 rfl (by decide) (by decide) rfl (by simp [Value.category]) ?_
  refine o_istoreE (L' := [some _, some _, some _, some _, some _, some _, some _, none]) C dL_law_674 (by rw [hn]; decide) rfl ?_
  refine x_aload_n C dL_law_676 rfl ?_
  refine w_callM (st := []) C E Y.1 hWm (s_thrown hWm) rfl md_X7_thrown wi_X7_thrown ws_X7_thrown wm_L_70 dL_law_677 rfl (by decide) (by decide) rfl (by simp) ?_
  refine x_iload C dL_law_680 rfl ?_
  refine x_icmp_eq (tgt := 687) C dL_law_682 (by decide) (fun _ => ?_) (fun q => absurd (if_pos (fun q => no1 q.1.1 q.1.2)) q)
  refine x_iload C dL_law_687 rfl ?_
  refine x_if_ne (tgt := 704) C dL_law_689 (by decide) (fun _ => ?_) (fun q => absurd q (by decide))
  refine x_goto (tgt := 993) C dL_law_704 (by decide) ?_
  exact (K _ _ _ _).room (Nat.zero_le _) (Nat.zero_le _)
theorem c_readOut (Q : LC w c z b xs a o ad u h) : X z 6 194 (EQ h) 707 [some (.ref b), some (.ref (a 0)), some (.ref o), some (.ref u), some (.int 0), none, none, none] [] := by
  obtain ⟨hX, C, E, hz, S, I, K⟩ := Q
  have Y := Cty.of hX.1 E
  have hn : z.nL = 8 := hz.2.2.2.1
  have F := I.1
  have hoa : ∀ i, i < 11 → u ≠ a i := fun i hi => (I.2.2.2.2.1 i hi).1
  refine x_aload_n C dL_law_707 rfl ?_
  refine x_aload_n C dL_law_708 rfl ?_
  refine x_iload C dL_law_709 rfl ?_
  refine x_iconst (v := 1) C dL_law_711 (by decide) ?_
  refine x_iadd C dL_law_712 ?_
  refine w_sld C hz S dL_law_713 (vp_in_nI (n := 1) (N := 7) (by decide) (by decide)) ?_
  refine x_aload_n C dL_law_714 rfl ?_
  refine k_callSW (kc := 5) (ks := 188) (st := []) C E hX.1.1 gw_good (l_readOut hX F I.2.1 hoa _) mw_L_readOut wt_L_readOut wm_L_107 dL_law_715 rfl (by decide) (by decide) rfl (by simp) (fun r => X.opn (fun g hg => ?_))
  obtain ⟨rfl, e⟩ := hg
  subst e
  refine o_istoreE (L' := [some _, some _, some _, some _, some _, some _, none, none]) C dL_law_718 (by rw [hn]; decide) rfl ?_
  refine x_aload_n C dL_law_720 rfl ?_
  refine x_aload_n C dL_law_721 rfl ?_
  refine x_iload C dL_law_722 rfl ?_
  refine x_iconst (v := 1) C dL_law_724 (by decide) ?_
  refine x_iadd C dL_law_725 ?_
  refine w_sld C hz S dL_law_726 (vp_in_nI (n := 1) (N := 7) (by decide) (by decide)) ?_
  have hM : MA (c, o, ad, g) Z0 g := I.go (fun q _ _ _ => rfl)
  have hWm := I.wm hX g
  refine X.heap (A' := MA (c, o, ad, g) Z0) ?_ (fun q e => by rw [e]; exact hM)
  refine w_callM (st := []) C E Y.1 hWm (s_readOut_f hWm _ (fun q => no1 q.1 q.2)) rfl md_X7_readOut wi_X7_readOut ws_X7_readOut wm_L_109 dL_law_727 rfl (by decide) (by decide) rfl (by simp [Value.category]) ?_
  refine o_istoreE (L' := [some _, some _, some _, some _, some _, some _, some _, none]) C dL_law_730 (by rw [hn]; decide) rfl ?_
  refine x_aload_n C dL_law_732 rfl ?_
  refine w_callM (st := []) C E Y.1 hWm (s_thrown hWm) rfl md_X7_thrown wi_X7_thrown ws_X7_thrown wm_L_70 dL_law_733 rfl (by decide) (by decide) rfl (by simp) ?_
  refine x_iload C dL_law_736 rfl ?_
  refine x_icmp_eq (tgt := 743) C dL_law_738 (by decide) (fun _ => ?_) (fun q => absurd (rfl) q)
  refine x_iload C dL_law_743 rfl ?_
  refine x_if_ne (tgt := 760) C dL_law_745 (by decide) (fun _ => ?_) (fun q => absurd q (by decide))
  refine x_goto (tgt := 993) C dL_law_760 (by decide) ?_
  exact (K _ _ _ _).room (Nat.zero_le _) (Nat.zero_le _)
theorem c_record (Q : LC w c z b xs a o ad u h) : X z 6 194 (EQ h) 802 [some (.ref b), some (.ref (a 0)), some (.ref o), some (.ref u), some (.int 0), none, none, none] [] := by
  obtain ⟨hX, C, E, hz, S, I, K⟩ := Q
  have Y := Cty.of hX.1 E
  have hn : z.nL = 8 := hz.2.2.2.1
  have F := I.1
  have hoa : ∀ i, i < 11 → u ≠ a i := fun i hi => (I.2.2.2.2.1 i hi).1
  refine x_aload_n C dL_law_802 rfl ?_
  refine x_aload_n C dL_law_803 rfl ?_
  refine x_iload C dL_law_804 rfl ?_
  refine x_iconst (v := 1) C dL_law_806 (by decide) ?_
  refine x_iadd C dL_law_807 ?_
  refine w_sld C hz S dL_law_808 (vp_in_nI (n := 1) (N := 7) (by decide) (by decide)) ?_
  refine x_aload_n C dL_law_809 rfl ?_
  refine x_iload C dL_law_810 rfl ?_
  refine x_iconst (v := 2) C dL_law_812 (by decide) ?_
  refine x_iadd C dL_law_813 ?_
  refine w_sld C hz S dL_law_814 (vp_in_nI (n := 2) (N := 7) (by decide) (by decide)) ?_
  refine x_aload_n C dL_law_815 rfl ?_
  refine k_callSW (kc := 5) (ks := 188) (st := []) C E hX.1.1 gw_good (l_record hX F I.2.1 hoa _ _) mw_L_record wt_L_record wm_L_122 dL_law_816 rfl (by decide) (by decide) rfl (by simp) (fun r => X.opn (fun g hg => ?_))
  obtain ⟨rfl, e⟩ := hg
  subst e
  refine o_istoreE (L' := [some _, some _, some _, some _, some _, some _, none, none]) C dL_law_819 (by rw [hn]; decide) rfl ?_
  refine x_aload_n C dL_law_821 rfl ?_
  refine x_aload_n C dL_law_822 rfl ?_
  refine x_iload C dL_law_823 rfl ?_
  refine x_iconst (v := 1) C dL_law_825 (by decide) ?_
  refine x_iadd C dL_law_826 ?_
  refine w_sld C hz S dL_law_827 (vp_in_nI (n := 1) (N := 7) (by decide) (by decide)) ?_
  refine x_aload_n C dL_law_828 rfl ?_
  refine x_iload C dL_law_829 rfl ?_
  refine x_iconst (v := 2) C dL_law_831 (by decide) ?_
  refine x_iadd C dL_law_832 ?_
  refine w_sld C hz S dL_law_833 (vp_in_nI (n := 2) (N := 7) (by decide) (by decide)) ?_
  have hM : MA (c, o, ad, g) Z0 g := I.go (fun q _ _ _ => rfl)
  have hWm := I.wm hX g
  refine X.heap (A' := MA (c, o, ad, g) Z0) ?_ (fun q e => by rw [e]; exact hM)
  refine w_callM (st := []) C E Y.1 hWm (s_record_x hWm 0 rfl (by decide) _ _ (fun q => no1 q.1.1 q.1.2)) rfl md_X7_record wi_X7_record ws_X7_record wm_L_124 dL_law_834 rfl (by decide) (by decide) rfl (by simp [Value.category]) ?_
  refine o_lstoreE (L' := [some _, some _, some _, some _, some _, some _, some _, none]) C dL_law_837 (by rw [hn]; decide) rfl ?_
  refine x_aload_n C dL_law_839 rfl ?_
  refine w_callM (st := []) C E Y.1 hWm (s_thrown hWm) rfl md_X7_thrown wi_X7_thrown ws_X7_thrown wm_L_70 dL_law_840 rfl (by decide) (by decide) rfl (by simp) ?_
  refine x_iload C dL_law_843 rfl ?_
  refine x_icmp_eq (tgt := 850) C dL_law_845 (by decide) (fun _ => ?_) (fun q => absurd (rfl) q)
  refine x_iload C dL_law_850 rfl ?_
  refine x_if_ne (tgt := 866) C dL_law_852 (by decide) (fun _ => ?_) (fun q => absurd q (by decide))
  refine x_goto (tgt := 993) C dL_law_866 (by decide) ?_
  exact (K _ _ _ _).room (Nat.zero_le _) (Nat.zero_le _)
theorem c_text (Q : LC w c z b xs a o ad u h) : X z 6 194 (EQ h) 869 [some (.ref b), some (.ref (a 0)), some (.ref o), some (.ref u), some (.int 0), none, none, none] [] := by
  obtain ⟨hX, C, E, hz, S, I, K⟩ := Q
  have Y := Cty.of hX.1 E
  have hn : z.nL = 8 := hz.2.2.2.1
  have F := I.1
  have hoa : ∀ i, i < 11 → u ≠ a i := fun i hi => (I.2.2.2.2.1 i hi).1
  refine x_aload_n C dL_law_869 rfl ?_
  refine x_aload_n C dL_law_870 rfl ?_
  refine x_iload C dL_law_871 rfl ?_
  refine x_iconst (v := 1) C dL_law_873 (by decide) ?_
  refine x_iadd C dL_law_874 ?_
  refine w_sld C hz S dL_law_875 (vp_in_nI (n := 1) (N := 7) (by decide) (by decide)) ?_
  refine x_aload_n C dL_law_876 rfl ?_
  refine x_iload C dL_law_877 rfl ?_
  refine x_iconst (v := 2) C dL_law_879 (by decide) ?_
  refine x_iadd C dL_law_880 ?_
  refine w_sld C hz S dL_law_881 (vp_in_nI (n := 2) (N := 7) (by decide) (by decide)) ?_
  refine x_aload_n C dL_law_882 rfl ?_
  refine k_callSW (kc := 5) (ks := 188) (st := []) C E hX.1.1 gw_good (l_text hX F I.2.1 hoa _ _) mw_L_text wt_L_text wm_L_125 dL_law_883 rfl (by decide) (by decide) rfl (by simp) (fun r => X.opn (fun g hg => ?_))
  obtain ⟨rfl, e⟩ := hg
  subst e
  refine o_istoreE (L' := [some _, some _, some _, some _, some _, some _, none, none]) C dL_law_886 (by rw [hn]; decide) rfl ?_
  refine x_aload_n C dL_law_888 rfl ?_
  refine x_aload_n C dL_law_889 rfl ?_
  refine x_iload C dL_law_890 rfl ?_
  refine x_iconst (v := 1) C dL_law_892 (by decide) ?_
  refine x_iadd C dL_law_893 ?_
  refine w_sld C hz S dL_law_894 (vp_in_nI (n := 1) (N := 7) (by decide) (by decide)) ?_
  refine x_aload_n C dL_law_895 rfl ?_
  refine x_iload C dL_law_896 rfl ?_
  refine x_iconst (v := 2) C dL_law_898 (by decide) ?_
  refine x_iadd C dL_law_899 ?_
  refine w_sld C hz S dL_law_900 (vp_in_nI (n := 2) (N := 7) (by decide) (by decide)) ?_
  have hM : MA (c, o, ad, g) Z0 g := I.go (fun q _ _ _ => rfl)
  have hWm := I.wm hX g
  refine X.heap (A' := MA (c, o, ad, g) Z0) ?_ (fun q e => by rw [e]; exact hM)
  refine w_callM (st := []) C E Y.1 hWm (s_text_x hWm 0 rfl (by decide) _ _ (fun q => no1 q.1.1 q.1.2)) rfl md_X7_text wi_X7_text ws_X7_text wm_L_127 dL_law_901 rfl (by decide) (by decide) rfl (by simp [Value.category]) ?_
  refine o_istoreE (L' := [some _, some _, some _, some _, some _, some _, some _, none]) C dL_law_904 (by rw [hn]; decide) rfl ?_
  refine x_aload_n C dL_law_906 rfl ?_
  refine w_callM (st := []) C E Y.1 hWm (s_thrown hWm) rfl md_X7_thrown wi_X7_thrown ws_X7_thrown wm_L_70 dL_law_907 rfl (by decide) (by decide) rfl (by simp) ?_
  refine x_iload C dL_law_910 rfl ?_
  refine x_icmp_eq (tgt := 917) C dL_law_912 (by decide) (fun _ => ?_) (fun q => absurd (rfl) q)
  refine x_iload C dL_law_917 rfl ?_
  refine x_if_ne (tgt := 934) C dL_law_919 (by decide) (fun _ => ?_) (fun q => absurd q (by decide))
  refine x_goto (tgt := 993) C dL_law_934 (by decide) ?_
  exact (K _ _ _ _).room (Nat.zero_le _) (Nat.zero_le _)
theorem c_remove (Q : LC w c z b xs a o ad u h) : X z 6 194 (EQ h) 414 [some (.ref b), some (.ref (a 0)), some (.ref o), some (.ref u), some (.int 0), none, none, none] [] := by
  obtain ⟨hX, C, E, hz, S, I, K⟩ := Q
  have Y := Cty.of hX.1 E
  have hn : z.nL = 8 := hz.2.2.2.1
  have F := I.1
  have hoa : ∀ i, i < 11 → u ≠ a i := fun i hi => (I.2.2.2.2.1 i hi).1
  refine x_aload_n C dL_law_414 rfl ?_
  refine x_aload_n C dL_law_415 rfl ?_
  refine x_iload C dL_law_416 rfl ?_
  refine x_iconst (v := 1) C dL_law_418 (by decide) ?_
  refine x_iadd C dL_law_419 ?_
  refine w_sld C hz S dL_law_420 (vp_in_nI (n := 1) (N := 7) (by decide) (by decide)) ?_
  refine x_aload_n C dL_law_421 rfl ?_
  refine k_callSW (kc := 5) (ks := 188) (st := []) C E hX.1.1 gw_good (l_remove hX F I.2.1 hoa _) mw_L_remove wt_L_remove wm_L_86 dL_law_422 rfl (by decide) (by decide) rfl (by simp) (fun r => X.opn (fun g hg => ?_))
  rcases hg with ⟨hc, rfl, e⟩ | ⟨hc, rfl, e⟩
  · have hu : g u = some (.inl (c 1, 1, .inr (.inl (vp_updL (fun _ => 0) 0 0)))) := by rw [e]; exact hs_self ..
    have hq : ∀ q, h q ≠ none → q ≠ u → (∀ i, i < 11 → q ≠ a i) → g q = h q := fun q _ n _ => by rw [e, hs_ne n]
    obtain ⟨j, hj0, ej⟩ := nI_of (Int32.not_lt.mpr hc.1)
    have hj : j < 12 := (nI_ltI hj0 (by decide)).mp (by rw [← ej]; exact hc.2)
    refine o_istoreE (L' := [some _, some _, some _, some _, some _, some _, none, none]) C dL_law_425 (by rw [hn]; decide) rfl ?_
    refine x_aload_n C dL_law_427 rfl ?_
    refine x_aload_n C dL_law_428 rfl ?_
    refine x_iload C dL_law_429 rfl ?_
    refine x_iconst (v := 1) C dL_law_431 (by decide) ?_
    refine x_iadd C dL_law_432 ?_
    refine w_sld C hz S dL_law_433 (vp_in_nI (n := 1) (N := 7) (by decide) (by decide)) ?_
    rw [ej]
    have hM : MA (c, o, ad, g) Z0 g := I.go hq
    have hWm := I.wm hX g
    refine X.heap (A' := MA (c, o, ad, g) Z0) ?_ (fun q e => by rw [e]; exact hM)
    refine w_callM (st := []) C E Y.1 hWm (g_remove hWm MH.init j hj) rfl md_X7_remove wi_X7_remove ws_X7_remove wm_L_88 dL_law_434 rfl (by decide) (by decide) rfl (by simp [Value.category]) ?_
    refine o_istoreE (L' := [some _, some _, some _, some _, some _, some _, some _, none]) C dL_law_437 (by rw [hn]; decide) rfl ?_
    refine x_aload_n C dL_law_439 rfl ?_
    refine w_callM (st := []) C E Y.1 hWm (s_thrown hWm) rfl md_X7_thrown wi_X7_thrown ws_X7_thrown wm_L_70 dL_law_440 rfl (by decide) (by decide) rfl (by simp) ?_
    refine x_iload C dL_law_443 rfl ?_
    refine x_icmp_eq (tgt := 450) C dL_law_445 (by decide) (fun _ => ?_) (fun q => absurd (rfl) q)
    refine x_iload C dL_law_450 rfl ?_
    refine x_if_ne (tgt := 474) C dL_law_452 (by decide) (fun q => absurd rfl q) (fun _ => ?_)
    refine x_aload_n C dL_law_455 rfl ?_
    refine x_iconst (v := 0) C dL_law_456 (by decide) ?_
    refine w_lald C Y dL_law_457 (fun q m => I.out hu m) (vp_in_nI (n := 0) (N := 1) (by decide) (by decide)) ?_
    refine x_iload C dL_law_458 rfl ?_
    refine x_if_eq (tgt := 467) C dL_law_460 (by decide) (fun _ => ?_) (fun q => absurd rfl q)
    refine x_lconst (v := 0) C dL_law_467 (by decide) ?_
    refine x_lcmp C dL_law_468 ?_
    refine x_if_eq (tgt := 474) C dL_law_469 (by decide) (fun _ => ?_) (fun q => absurd (cmp_self 0) q)
    refine x_goto (tgt := 993) C dL_law_474 (by decide) ?_
    exact (K _ _ _ _).room (Nat.zero_le _) (Nat.zero_le _)
  · subst e
    refine o_istoreE (L' := [some _, some _, some _, some _, some _, some _, none, none]) C dL_law_425 (by rw [hn]; decide) rfl ?_
    refine x_aload_n C dL_law_427 rfl ?_
    refine x_aload_n C dL_law_428 rfl ?_
    refine x_iload C dL_law_429 rfl ?_
    refine x_iconst (v := 1) C dL_law_431 (by decide) ?_
    refine x_iadd C dL_law_432 ?_
    refine w_sld C hz S dL_law_433 (vp_in_nI (n := 1) (N := 7) (by decide) (by decide)) ?_
    have hM : MA (c, o, ad, g) Z0 g := I.go (fun q _ _ _ => rfl)
    have hWm := I.wm hX g
    refine X.heap (A' := MA (c, o, ad, g) Z0) ?_ (fun q e => by rw [e]; exact hM)
    refine w_callM (st := []) C E Y.1 hWm (s_remove_f hWm _ (fun q => hc ⟨q.1, lt12.mpr q.2⟩)) rfl md_X7_remove wi_X7_remove ws_X7_remove wm_L_88 dL_law_434 rfl (by decide) (by decide) rfl (by simp [Value.category]) ?_
    refine o_istoreE (L' := [some _, some _, some _, some _, some _, some _, some _, none]) C dL_law_437 (by rw [hn]; decide) rfl ?_
    refine x_aload_n C dL_law_439 rfl ?_
    refine w_callM (st := []) C E Y.1 hWm (s_thrown hWm) rfl md_X7_thrown wi_X7_thrown ws_X7_thrown wm_L_70 dL_law_440 rfl (by decide) (by decide) rfl (by simp) ?_
    refine x_iload C dL_law_443 rfl ?_
    refine x_icmp_eq (tgt := 450) C dL_law_445 (by decide) (fun _ => ?_) (fun q => absurd (rfl) q)
    refine x_iload C dL_law_450 rfl ?_
    refine x_if_ne (tgt := 474) C dL_law_452 (by decide) (fun _ => ?_) (fun q => absurd q (by decide))
    refine x_goto (tgt := 993) C dL_law_474 (by decide) ?_
    exact (K _ _ _ _).room (Nat.zero_le _) (Nat.zero_le _)
theorem c_state (Q : LC w c z b xs a o ad u h) : X z 6 194 (EQ h) 545 [some (.ref b), some (.ref (a 0)), some (.ref o), some (.ref u), some (.int 0), none, none, none] [] := by
  obtain ⟨hX, C, E, hz, S, I, K⟩ := Q
  have Y := Cty.of hX.1 E
  have hn : z.nL = 8 := hz.2.2.2.1
  have F := I.1
  have hoa : ∀ i, i < 11 → u ≠ a i := fun i hi => (I.2.2.2.2.1 i hi).1
  refine x_aload_n C dL_law_545 rfl ?_
  refine x_aload_n C dL_law_546 rfl ?_
  refine x_iload C dL_law_547 rfl ?_
  refine x_iconst (v := 1) C dL_law_549 (by decide) ?_
  refine x_iadd C dL_law_550 ?_
  refine w_sld C hz S dL_law_551 (vp_in_nI (n := 1) (N := 7) (by decide) (by decide)) ?_
  refine x_aload_n C dL_law_552 rfl ?_
  refine x_iload C dL_law_553 rfl ?_
  refine x_iconst (v := 2) C dL_law_555 (by decide) ?_
  refine x_iadd C dL_law_556 ?_
  refine w_sld C hz S dL_law_557 (vp_in_nI (n := 2) (N := 7) (by decide) (by decide)) ?_
  refine x_aload_n C dL_law_558 rfl ?_
  refine k_callSW (kc := 5) (ks := 188) (st := []) C E hX.1.1 gw_good (l_state hX F I.2.1 hoa _ _) mw_L_state wt_L_state wm_L_93 dL_law_559 rfl (by decide) (by decide) rfl (by simp) (fun r => X.opn (fun g hg => ?_))
  rcases hg with ⟨hc, rfl, e⟩ | ⟨hc, rfl, e⟩
  · have hu : g u = some (.inl (c 1, 1, .inr (.inl (vp_updL (fun _ => 0) 0 0)))) := by rw [e]; exact hs_self ..
    have hq : ∀ q, h q ≠ none → q ≠ u → (∀ i, i < 11 → q ≠ a i) → g q = h q := fun q _ n _ => by rw [e, hs_ne n]
    obtain ⟨j, hj0, ej⟩ := nI_of (Int32.not_lt.mpr hc.1.1)
    have hj : j < 12 := (nI_ltI hj0 (by decide)).mp (by rw [← ej]; exact hc.1.2)
    refine o_istoreE (L' := [some _, some _, some _, some _, some _, some _, none, none]) C dL_law_562 (by rw [hn]; decide) rfl ?_
    refine x_aload_n C dL_law_564 rfl ?_
    refine x_aload_n C dL_law_565 rfl ?_
    refine x_iload C dL_law_566 rfl ?_
    refine x_iconst (v := 1) C dL_law_568 (by decide) ?_
    refine x_iadd C dL_law_569 ?_
    refine w_sld C hz S dL_law_570 (vp_in_nI (n := 1) (N := 7) (by decide) (by decide)) ?_
    refine x_aload_n C dL_law_571 rfl ?_
    refine x_iload C dL_law_572 rfl ?_
    refine x_iconst (v := 2) C dL_law_574 (by decide) ?_
    refine x_iadd C dL_law_575 ?_
    refine w_sld C hz S dL_law_576 (vp_in_nI (n := 2) (N := 7) (by decide) (by decide)) ?_
    rw [ej]
    have hM : MA (c, o, ad, g) Z0 g := I.go hq
    have hWm := I.wm hX g
    refine X.heap (A' := MA (c, o, ad, g) Z0) ?_ (fun q e => by rw [e]; exact hM)
    refine w_callM (st := []) C E Y.1 hWm (s_state_n hWm j hj _ hc.2 rfl) rfl md_X7_state wi_X7_state ws_X7_state wm_L_95 dL_law_577 rfl (by decide) (by decide) rfl (by simp [Value.category]) ?_
    refine o_istoreE (L' := [some _, some _, some _, some _, some _, some _, some _, none]) C dL_law_580 (by rw [hn]; decide) rfl ?_
    refine x_aload_n C dL_law_582 rfl ?_
    refine w_callM (st := []) C E Y.1 hWm (s_thrown hWm) rfl md_X7_thrown wi_X7_thrown ws_X7_thrown wm_L_70 dL_law_583 rfl (by decide) (by decide) rfl (by simp) ?_
    refine x_iload C dL_law_586 rfl ?_
    refine x_icmp_eq (tgt := 593) C dL_law_588 (by decide) (fun _ => ?_) (fun q => absurd (rfl) q)
    refine x_iload C dL_law_593 rfl ?_
    refine x_if_ne (tgt := 610) C dL_law_595 (by decide) (fun q => absurd rfl q) (fun _ => ?_)
    refine x_aload_n C dL_law_598 rfl ?_
    refine x_iconst (v := 0) C dL_law_599 (by decide) ?_
    refine w_lald C Y dL_law_600 (fun q m => I.out hu m) (vp_in_nI (n := 0) (N := 1) (by decide) (by decide)) ?_
    refine x_iload C dL_law_601 rfl ?_
    refine x_i2l C dL_law_603 ?_
    refine x_lcmp C dL_law_604 ?_
    refine x_if_eq (tgt := 610) C dL_law_605 (by decide) (fun _ => ?_) (fun q => absurd (cmp_self 0) q)
    refine x_goto (tgt := 993) C dL_law_610 (by decide) ?_
    exact (K _ _ _ _).room (Nat.zero_le _) (Nat.zero_le _)
  · subst e
    refine o_istoreE (L' := [some _, some _, some _, some _, some _, some _, none, none]) C dL_law_562 (by rw [hn]; decide) rfl ?_
    refine x_aload_n C dL_law_564 rfl ?_
    refine x_aload_n C dL_law_565 rfl ?_
    refine x_iload C dL_law_566 rfl ?_
    refine x_iconst (v := 1) C dL_law_568 (by decide) ?_
    refine x_iadd C dL_law_569 ?_
    refine w_sld C hz S dL_law_570 (vp_in_nI (n := 1) (N := 7) (by decide) (by decide)) ?_
    refine x_aload_n C dL_law_571 rfl ?_
    refine x_iload C dL_law_572 rfl ?_
    refine x_iconst (v := 2) C dL_law_574 (by decide) ?_
    refine x_iadd C dL_law_575 ?_
    refine w_sld C hz S dL_law_576 (vp_in_nI (n := 2) (N := 7) (by decide) (by decide)) ?_
    have hM : MA (c, o, ad, g) Z0 g := I.go (fun q _ _ _ => rfl)
    have hWm := I.wm hX g
    refine X.heap (A' := MA (c, o, ad, g) Z0) ?_ (fun q e => by rw [e]; exact hM)
    refine w_callM (st := []) C E Y.1 hWm (s_state_f hWm _ _ (fun q => hc ⟨⟨q.1.1, lt12.mpr q.1.2⟩, q.2⟩)) rfl md_X7_state wi_X7_state ws_X7_state wm_L_95 dL_law_577 rfl (by decide) (by decide) rfl (by simp [Value.category]) ?_
    refine o_istoreE (L' := [some _, some _, some _, some _, some _, some _, some _, none]) C dL_law_580 (by rw [hn]; decide) rfl ?_
    refine x_aload_n C dL_law_582 rfl ?_
    refine w_callM (st := []) C E Y.1 hWm (s_thrown hWm) rfl md_X7_thrown wi_X7_thrown ws_X7_thrown wm_L_70 dL_law_583 rfl (by decide) (by decide) rfl (by simp) ?_
    refine x_iload C dL_law_586 rfl ?_
    refine x_icmp_eq (tgt := 593) C dL_law_588 (by decide) (fun _ => ?_) (fun q => absurd (rfl) q)
    refine x_iload C dL_law_593 rfl ?_
    refine x_if_ne (tgt := 610) C dL_law_595 (by decide) (fun _ => ?_) (fun q => absurd q (by decide))
    refine x_goto (tgt := 993) C dL_law_610 (by decide) ?_
    exact (K _ _ _ _).room (Nat.zero_le _) (Nat.zero_le _)
theorem c_count (Q : LC w c z b xs a o ad u h) : X z 6 194 (EQ h) 937 [some (.ref b), some (.ref (a 0)), some (.ref o), some (.ref u), some (.int 0), none, none, none] [] := by
  obtain ⟨hX, C, E, hz, S, I, K⟩ := Q
  have Y := Cty.of hX.1 E
  have hn : z.nL = 8 := hz.2.2.2.1
  have F := I.1
  have hoa : ∀ i, i < 11 → u ≠ a i := fun i hi => (I.2.2.2.2.1 i hi).1
  refine x_aload_n C dL_law_937 rfl ?_
  refine x_aload_n C dL_law_938 rfl ?_
  refine x_iload C dL_law_939 rfl ?_
  refine x_iconst (v := 1) C dL_law_941 (by decide) ?_
  refine x_iadd C dL_law_942 ?_
  refine w_sld C hz S dL_law_943 (vp_in_nI (n := 1) (N := 7) (by decide) (by decide)) ?_
  refine x_aload_n C dL_law_944 rfl ?_
  refine k_callSW (kc := 5) (ks := 188) (st := []) C E hX.1.1 gw_good (l_count hX F I.2.1 hoa _) mw_L_count wt_L_count wm_L_128 dL_law_945 rfl (by decide) (by decide) rfl (by simp) (fun r => X.opn (fun g hg => ?_))
  rcases hg with ⟨hc, rfl, e⟩ | ⟨hc, rfl, e⟩
  · have hu : g u = some (.inl (c 1, 1, .inr (.inl (vp_updL (fun _ => 0) 0 0)))) := by rw [e]; exact hs_self ..
    have hq : ∀ q, h q ≠ none → q ≠ u → (∀ i, i < 11 → q ≠ a i) → g q = h q := fun q _ n _ => by rw [e, hs_ne n]
    refine o_istoreE (L' := [some _, some _, some _, some _, some _, some _, none, none]) C dL_law_948 (by rw [hn]; decide) rfl ?_
    refine x_aload_n C dL_law_950 rfl ?_
    refine x_aload_n C dL_law_951 rfl ?_
    refine x_iload C dL_law_952 rfl ?_
    refine x_iconst (v := 1) C dL_law_954 (by decide) ?_
    refine x_iadd C dL_law_955 ?_
    refine w_sld C hz S dL_law_956 (vp_in_nI (n := 1) (N := 7) (by decide) (by decide)) ?_
    have hM : MA (c, o, ad, g) Z0 g := I.go hq
    have hWm := I.wm hX g
    refine X.heap (A' := MA (c, o, ad, g) Z0) ?_ (fun q e => by rw [e]; exact hM)
    refine w_callM (st := []) C E Y.1 hWm (s_count_t hWm _ hc) rfl md_X7_count wi_X7_count ws_X7_count wm_L_130 dL_law_957 rfl (by decide) (by decide) rfl (by simp [Value.category]) ?_
    refine o_istoreE (L' := [some _, some _, some _, some _, some _, some _, some _, none]) C dL_law_960 (by rw [hn]; decide) rfl ?_
    refine x_aload_n C dL_law_962 rfl ?_
    refine w_callM (st := []) C E Y.1 hWm (s_thrown hWm) rfl md_X7_thrown wi_X7_thrown ws_X7_thrown wm_L_70 dL_law_963 rfl (by decide) (by decide) rfl (by simp) ?_
    refine x_iload C dL_law_966 rfl ?_
    refine x_icmp_eq (tgt := 973) C dL_law_968 (by decide) (fun _ => ?_) (fun q => absurd (rfl) q)
    refine x_iload C dL_law_973 rfl ?_
    refine x_if_ne (tgt := 990) C dL_law_975 (by decide) (fun q => absurd rfl q) (fun _ => ?_)
    refine x_aload_n C dL_law_978 rfl ?_
    refine x_iconst (v := 0) C dL_law_979 (by decide) ?_
    refine w_lald C Y dL_law_980 (fun q m => I.out hu m) (vp_in_nI (n := 0) (N := 1) (by decide) (by decide)) ?_
    refine x_iload C dL_law_981 rfl ?_
    refine x_i2l C dL_law_983 ?_
    refine x_lcmp C dL_law_984 ?_
    refine x_if_eq (tgt := 990) C dL_law_985 (by decide) (fun _ => ?_) (fun q => absurd (by rw [z_count]; exact cmp_self 0) q)
    refine x_goto (tgt := 993) C dL_law_990 (by decide) ?_
    exact (K _ _ _ _).room (Nat.zero_le _) (Nat.zero_le _)
  · subst e
    refine o_istoreE (L' := [some _, some _, some _, some _, some _, some _, none, none]) C dL_law_948 (by rw [hn]; decide) rfl ?_
    refine x_aload_n C dL_law_950 rfl ?_
    refine x_aload_n C dL_law_951 rfl ?_
    refine x_iload C dL_law_952 rfl ?_
    refine x_iconst (v := 1) C dL_law_954 (by decide) ?_
    refine x_iadd C dL_law_955 ?_
    refine w_sld C hz S dL_law_956 (vp_in_nI (n := 1) (N := 7) (by decide) (by decide)) ?_
    have hM : MA (c, o, ad, g) Z0 g := I.go (fun q _ _ _ => rfl)
    have hWm := I.wm hX g
    refine X.heap (A' := MA (c, o, ad, g) Z0) ?_ (fun q e => by rw [e]; exact hM)
    refine w_callM (st := []) C E Y.1 hWm (s_count_f hWm _ hc) rfl md_X7_count wi_X7_count ws_X7_count wm_L_130 dL_law_957 rfl (by decide) (by decide) rfl (by simp [Value.category]) ?_
    refine o_istoreE (L' := [some _, some _, some _, some _, some _, some _, some _, none]) C dL_law_960 (by rw [hn]; decide) rfl ?_
    refine x_aload_n C dL_law_962 rfl ?_
    refine w_callM (st := []) C E Y.1 hWm (s_thrown hWm) rfl md_X7_thrown wi_X7_thrown ws_X7_thrown wm_L_70 dL_law_963 rfl (by decide) (by decide) rfl (by simp) ?_
    refine x_iload C dL_law_966 rfl ?_
    refine x_icmp_eq (tgt := 973) C dL_law_968 (by decide) (fun _ => ?_) (fun q => absurd (rfl) q)
    refine x_iload C dL_law_973 rfl ?_
    refine x_if_ne (tgt := 990) C dL_law_975 (by decide) (fun _ => ?_) (fun q => absurd q (by decide))
    refine x_goto (tgt := 993) C dL_law_990 (by decide) ?_
    exact (K _ _ _ _).room (Nat.zero_le _) (Nat.zero_le _)
theorem c_keep (Q : LC w c z b xs a o ad u h) : X z 6 194 (EQ h) 224 [some (.ref b), some (.ref (a 0)), some (.ref o), some (.ref u), some (.int 0), none, none, none] [] := by
  obtain ⟨hX, C, E, hz, S, I, K⟩ := Q
  have Y := Cty.of hX.1 E
  have hn : z.nL = 8 := hz.2.2.2.1
  have F := I.1
  have hoa : ∀ i, i < 11 → u ≠ a i := fun i hi => (I.2.2.2.2.1 i hi).1
  refine x_aload_n C dL_law_224 rfl ?_
  refine x_aload_n C dL_law_225 rfl ?_
  refine x_iload C dL_law_226 rfl ?_
  refine x_iconst (v := 1) C dL_law_228 (by decide) ?_
  refine x_iadd C dL_law_229 ?_
  refine w_sld C hz S dL_law_230 (vp_in_nI (n := 1) (N := 7) (by decide) (by decide)) ?_
  refine k_callSW (kc := 5) (ks := 188) (st := []) C E hX.1.1 gw_good (l_keep hX F _) mw_L_keep wt_L_keep wm_L_74 dL_law_231 rfl (by decide) (by decide) rfl (by simp) (fun r => X.opn (fun g hg => ?_))
  rcases hg with ⟨hc, rfl, e⟩ | ⟨hc, rfl, e⟩
  · subst e
    refine o_istoreE (L' := [some _, some _, some _, some _, some _, some _, none, none]) C dL_law_234 (by rw [hn]; decide) rfl ?_
    refine x_aload_n C dL_law_236 rfl ?_
    refine x_aload_n C dL_law_237 rfl ?_
    refine x_iload C dL_law_238 rfl ?_
    refine x_iconst (v := 1) C dL_law_240 (by decide) ?_
    refine x_iadd C dL_law_241 ?_
    refine w_sld C hz S dL_law_242 (vp_in_nI (n := 1) (N := 7) (by decide) (by decide)) ?_
    have hM : MA (c, o, ad, g) Z0 g := I.go (fun q _ _ _ => rfl)
    have hWm := I.wm hX g
    refine X.heap (A' := MA (c, o, ad, g) Z0) ?_ (fun q e => by rw [e]; exact hM)
    refine w_callM (st := []) C E Y.1 hWm (s_keep hWm _) rfl md_X7_keep wi_X7_keep ws_X7_keep wm_L_77 dL_law_243 rfl (by decide) (by decide) rfl (by simp [Value.category]) ?_
    refine x_aload_n C dL_law_246 rfl ?_
    refine w_callM (st := []) C E Y.1 hWm (s_thrown hWm) rfl md_X7_thrown wi_X7_thrown ws_X7_thrown wm_L_70 dL_law_247 rfl (by decide) (by decide) rfl (by simp) ?_
    refine x_iload C dL_law_250 rfl ?_
    refine x_icmp_eq (tgt := 257) C dL_law_252 (by decide) (fun _ => ?_) (fun q => absurd (congrArg (fun q : MS => q.i 0) (if_pos hc)) q)
    refine x_goto (tgt := 993) C dL_law_257 (by decide) ?_
    exact (K _ _ _ _).room (Nat.zero_le _) (Nat.zero_le _)
  · subst e
    refine o_istoreE (L' := [some _, some _, some _, some _, some _, some _, none, none]) C dL_law_234 (by rw [hn]; decide) rfl ?_
    refine x_aload_n C dL_law_236 rfl ?_
    refine x_aload_n C dL_law_237 rfl ?_
    refine x_iload C dL_law_238 rfl ?_
    refine x_iconst (v := 1) C dL_law_240 (by decide) ?_
    refine x_iadd C dL_law_241 ?_
    refine w_sld C hz S dL_law_242 (vp_in_nI (n := 1) (N := 7) (by decide) (by decide)) ?_
    have hM : MA (c, o, ad, g) Z0 g := I.go (fun q _ _ _ => rfl)
    have hWm := I.wm hX g
    refine X.heap (A' := MA (c, o, ad, g) Z0) ?_ (fun q e => by rw [e]; exact hM)
    refine w_callM (st := []) C E Y.1 hWm (s_keep hWm _) rfl md_X7_keep wi_X7_keep ws_X7_keep wm_L_77 dL_law_243 rfl (by decide) (by decide) rfl (by simp [Value.category]) ?_
    refine x_aload_n C dL_law_246 rfl ?_
    refine w_callM (st := []) C E Y.1 hWm (s_thrown hWm) rfl md_X7_thrown wi_X7_thrown ws_X7_thrown wm_L_70 dL_law_247 rfl (by decide) (by decide) rfl (by simp) ?_
    refine x_iload C dL_law_250 rfl ?_
    refine x_icmp_eq (tgt := 257) C dL_law_252 (by decide) (fun _ => ?_) (fun q => absurd (congrArg (fun q : MS => q.i 0) (if_neg hc)) q)
    refine x_goto (tgt := 993) C dL_law_257 (by decide) ?_
    exact (K _ _ _ _).room (Nat.zero_le _) (Nat.zero_le _)
theorem c_type (Q : LC w c z b xs a o ad u h) : X z 6 194 (EQ h) 124 [some (.ref b), some (.ref (a 0)), some (.ref o), some (.ref u), some (.int 0), none, none, none] [] := by
  obtain ⟨hX, C, E, hz, S, I, K⟩ := Q
  have Y := Cty.of hX.1 E
  have hn : z.nL = 8 := hz.2.2.2.1
  have F := I.1
  have hoa : ∀ i, i < 11 → u ≠ a i := fun i hi => (I.2.2.2.2.1 i hi).1
  refine x_aload_n C dL_law_124 rfl ?_
  refine x_aload_n C dL_law_125 rfl ?_
  refine x_iload C dL_law_126 rfl ?_
  refine x_iconst (v := 1) C dL_law_128 (by decide) ?_
  refine x_iadd C dL_law_129 ?_
  refine w_sld C hz S dL_law_130 (vp_in_nI (n := 1) (N := 7) (by decide) (by decide)) ?_
  refine x_i2l C dL_law_131 ?_
  refine x_bipush (v := 32) C dL_law_132 (by decide) ?_
  refine x_lshl C dL_law_134 ?_
  refine x_aload_n C dL_law_135 rfl ?_
  refine x_iload C dL_law_136 rfl ?_
  refine x_iconst (v := 2) C dL_law_138 (by decide) ?_
  refine x_iadd C dL_law_139 ?_
  refine w_sld C hz S dL_law_140 (vp_in_nI (n := 2) (N := 7) (by decide) (by decide)) ?_
  refine x_i2l C dL_law_141 ?_
  refine x_ldc2 C wk_L_62 dL_law_142 ?_
  refine x_land C dL_law_145 ?_
  refine x_lor C dL_law_146 ?_
  refine x_aload_n C dL_law_147 rfl ?_
  refine x_iload C dL_law_148 rfl ?_
  refine x_iconst (v := 3) C dL_law_150 (by decide) ?_
  refine x_iadd C dL_law_151 ?_
  refine w_sld C hz S dL_law_152 (vp_in_nI (n := 3) (N := 7) (by decide) (by decide)) ?_
  refine x_aload_n C dL_law_153 rfl ?_
  refine k_callSW (kc := 5) (ks := 188) (st := []) C E hX.1.1 gw_good (l_type hX F I.2.1 hoa _ _) mw_L_type wt_L_type wm_L_64 dL_law_154 rfl (by decide) (by decide) rfl (by simp) (fun r => X.opn (fun g hg => ?_))
  rcases hg with ⟨hc, rfl, hu, hq0⟩ | ⟨hc, rfl, e⟩
  · have hq : ∀ q, h q ≠ none → q ≠ u → (∀ i, i < 11 → q ≠ a i) → g q = h q := fun q _ n1 n2 => hq0 q n1 n2
    obtain ⟨m, hm0, em⟩ := nI_of (Int32.not_lt.mpr (Int32.le_trans (by decide) hc.1))
    have hm : 1 ≤ m ∧ m ≤ 8 := by
      rw [em] at hc
      exact ⟨Nat.le_of_not_lt (fun q => absurd (nI_lt q (by decide)) (Int32.not_lt.mpr hc.1)), Nat.le_of_not_lt (fun q => absurd (nI_lt q hm0) (Int32.not_lt.mpr hc.2))⟩
    refine o_istoreE (L' := [some _, some _, some _, some _, some _, some _, none, none]) C dL_law_157 (by rw [hn]; decide) rfl ?_
    refine x_aload_n C dL_law_159 rfl ?_
    refine x_aload_n C dL_law_160 rfl ?_
    refine x_iload C dL_law_161 rfl ?_
    refine x_iconst (v := 1) C dL_law_163 (by decide) ?_
    refine x_iadd C dL_law_164 ?_
    refine w_sld C hz S dL_law_165 (vp_in_nI (n := 1) (N := 7) (by decide) (by decide)) ?_
    refine x_i2l C dL_law_166 ?_
    refine x_bipush (v := 32) C dL_law_167 (by decide) ?_
    refine x_lshl C dL_law_169 ?_
    refine x_aload_n C dL_law_170 rfl ?_
    refine x_iload C dL_law_171 rfl ?_
    refine x_iconst (v := 2) C dL_law_173 (by decide) ?_
    refine x_iadd C dL_law_174 ?_
    refine w_sld C hz S dL_law_175 (vp_in_nI (n := 2) (N := 7) (by decide) (by decide)) ?_
    refine x_i2l C dL_law_176 ?_
    refine x_ldc2 C wk_L_62 dL_law_177 ?_
    refine x_land C dL_law_180 ?_
    refine x_lor C dL_law_181 ?_
    refine x_aload_n C dL_law_182 rfl ?_
    refine x_iload C dL_law_183 rfl ?_
    refine x_iconst (v := 3) C dL_law_185 (by decide) ?_
    refine x_iadd C dL_law_186 ?_
    refine w_sld C hz S dL_law_187 (vp_in_nI (n := 3) (N := 7) (by decide) (by decide)) ?_
    rw [em]
    have hM : MA (c, o, ad, g) Z0 g := I.go hq
    have hWm := I.wm hX g
    refine X.heap (A' := MA (c, o, ad, g) Z0) ?_ (fun q e => by rw [e]; exact hM)
    refine w_callM (st := []) C E Y.1 hWm (s_type_t hWm _ m 0 hm rfl (by omega)) rfl md_X7_type wi_X7_type ws_X7_type wm_L_69 dL_law_188 rfl (by decide) (by decide) rfl (by simp [Value.category]) ?_
    refine o_istoreE (L' := [some _, some _, some _, some _, some _, some _, some _, none]) C dL_law_191 (by rw [hn]; decide) rfl ?_
    refine x_aload_n C dL_law_193 rfl ?_
    refine w_callM (st := []) C E Y.1 hWm (s_thrown hWm) rfl md_X7_thrown wi_X7_thrown ws_X7_thrown wm_L_70 dL_law_194 rfl (by decide) (by decide) rfl (by simp) ?_
    refine x_iload C dL_law_197 rfl ?_
    refine x_icmp_eq (tgt := 204) C dL_law_199 (by decide) (fun _ => ?_) (fun q => absurd (ty_0 _ m hm) q)
    rw [em] at hu
    refine x_iload C dL_law_204 rfl ?_
    refine x_if_ne (tgt := 221) C dL_law_206 (by decide) (fun q => absurd rfl q) (fun _ => ?_)
    refine x_aload_n C dL_law_209 rfl ?_
    refine x_iconst (v := 0) C dL_law_210 (by decide) ?_
    refine w_lald C Y dL_law_211 (fun q m => I.out hu m) (vp_in_nI (n := 0) (N := 1) (by decide) (by decide)) ?_
    refine x_iload C dL_law_212 rfl ?_
    refine x_i2l C dL_law_214 ?_
    refine x_lcmp C dL_law_215 ?_
    refine x_if_eq (tgt := 221) C dL_law_216 (by decide) (fun _ => ?_) (fun q => absurd (by rw [Nat.zero_add]; exact cmp_self _) q)
    refine x_goto (tgt := 993) C dL_law_221 (by decide) ?_
    exact (K _ _ _ _).room (Nat.zero_le _) (Nat.zero_le _)
  · subst e
    refine o_istoreE (L' := [some _, some _, some _, some _, some _, some _, none, none]) C dL_law_157 (by rw [hn]; decide) rfl ?_
    refine x_aload_n C dL_law_159 rfl ?_
    refine x_aload_n C dL_law_160 rfl ?_
    refine x_iload C dL_law_161 rfl ?_
    refine x_iconst (v := 1) C dL_law_163 (by decide) ?_
    refine x_iadd C dL_law_164 ?_
    refine w_sld C hz S dL_law_165 (vp_in_nI (n := 1) (N := 7) (by decide) (by decide)) ?_
    refine x_i2l C dL_law_166 ?_
    refine x_bipush (v := 32) C dL_law_167 (by decide) ?_
    refine x_lshl C dL_law_169 ?_
    refine x_aload_n C dL_law_170 rfl ?_
    refine x_iload C dL_law_171 rfl ?_
    refine x_iconst (v := 2) C dL_law_173 (by decide) ?_
    refine x_iadd C dL_law_174 ?_
    refine w_sld C hz S dL_law_175 (vp_in_nI (n := 2) (N := 7) (by decide) (by decide)) ?_
    refine x_i2l C dL_law_176 ?_
    refine x_ldc2 C wk_L_62 dL_law_177 ?_
    refine x_land C dL_law_180 ?_
    refine x_lor C dL_law_181 ?_
    refine x_aload_n C dL_law_182 rfl ?_
    refine x_iload C dL_law_183 rfl ?_
    refine x_iconst (v := 3) C dL_law_185 (by decide) ?_
    refine x_iadd C dL_law_186 ?_
    refine w_sld C hz S dL_law_187 (vp_in_nI (n := 3) (N := 7) (by decide) (by decide)) ?_
    have hM : MA (c, o, ad, g) Z0 g := I.go (fun q _ _ _ => rfl)
    have hWm := I.wm hX g
    refine X.heap (A' := MA (c, o, ad, g) Z0) ?_ (fun q e => by rw [e]; exact hM)
    refine w_callM (st := []) C E Y.1 hWm (s_type_f hWm _ _ hc) rfl md_X7_type wi_X7_type ws_X7_type wm_L_69 dL_law_188 rfl (by decide) (by decide) rfl (by simp [Value.category]) ?_
    refine o_istoreE (L' := [some _, some _, some _, some _, some _, some _, some _, none]) C dL_law_191 (by rw [hn]; decide) rfl ?_
    refine x_aload_n C dL_law_193 rfl ?_
    refine w_callM (st := []) C E Y.1 hWm (s_thrown hWm) rfl md_X7_thrown wi_X7_thrown ws_X7_thrown wm_L_70 dL_law_194 rfl (by decide) (by decide) rfl (by simp) ?_
    refine x_iload C dL_law_197 rfl ?_
    refine x_icmp_eq (tgt := 204) C dL_law_199 (by decide) (fun _ => ?_) (fun q => absurd (rfl) q)
    refine x_iload C dL_law_204 rfl ?_
    refine x_if_ne (tgt := 221) C dL_law_206 (by decide) (fun _ => ?_) (fun q => absurd q (by decide))
    refine x_goto (tgt := 993) C dL_law_221 (by decide) ?_
    exact (K _ _ _ _).room (Nat.zero_le _) (Nat.zero_le _)
theorem c_meter (Q : LC w c z b xs a o ad u h) : X z 6 194 (EQ h) 316 [some (.ref b), some (.ref (a 0)), some (.ref o), some (.ref u), some (.int 0), none, none, none] [] := by
  obtain ⟨hX, C, E, hz, S, I, K⟩ := Q
  have Y := Cty.of hX.1 E
  have hn : z.nL = 8 := hz.2.2.2.1
  have F := I.1
  have hoa : ∀ i, i < 11 → u ≠ a i := fun i hi => (I.2.2.2.2.1 i hi).1
  refine x_aload_n C dL_law_316 rfl ?_
  refine x_aload_n C dL_law_317 rfl ?_
  refine x_iload C dL_law_318 rfl ?_
  refine x_iconst (v := 1) C dL_law_320 (by decide) ?_
  refine x_iadd C dL_law_321 ?_
  refine w_sld C hz S dL_law_322 (vp_in_nI (n := 1) (N := 7) (by decide) (by decide)) ?_
  refine x_aload_n C dL_law_323 rfl ?_
  refine x_iload C dL_law_324 rfl ?_
  refine x_iconst (v := 2) C dL_law_326 (by decide) ?_
  refine x_iadd C dL_law_327 ?_
  refine w_sld C hz S dL_law_328 (vp_in_nI (n := 2) (N := 7) (by decide) (by decide)) ?_
  refine x_aload_n C dL_law_329 rfl ?_
  refine x_iload C dL_law_330 rfl ?_
  refine x_iconst (v := 3) C dL_law_332 (by decide) ?_
  refine x_iadd C dL_law_333 ?_
  refine w_sld C hz S dL_law_334 (vp_in_nI (n := 3) (N := 7) (by decide) (by decide)) ?_
  refine x_aload_n C dL_law_335 rfl ?_
  refine x_iload C dL_law_336 rfl ?_
  refine x_iconst (v := 4) C dL_law_338 (by decide) ?_
  refine x_iadd C dL_law_339 ?_
  refine w_sld C hz S dL_law_340 (vp_in_nI (n := 4) (N := 7) (by decide) (by decide)) ?_
  refine x_aload_n C dL_law_341 rfl ?_
  refine x_iload C dL_law_342 rfl ?_
  refine x_iconst (v := 5) C dL_law_344 (by decide) ?_
  refine x_iadd C dL_law_345 ?_
  refine w_sld C hz S dL_law_346 (vp_in_nI (n := 5) (N := 7) (by decide) (by decide)) ?_
  refine x_aload_n C dL_law_347 rfl ?_
  refine x_iload C dL_law_348 rfl ?_
  refine x_bipush (v := 6) C dL_law_350 (by decide) ?_
  refine x_iadd C dL_law_352 ?_
  refine w_sld C hz S dL_law_353 (vp_in_nI (n := 6) (N := 7) (by decide) (by decide)) ?_
  refine k_callSW (kc := 0) (ks := 0) (st := []) C E hX.1.1 gw_good (l_meter hX F _ _ _ _ _ _) mw_L_meter wt_L_meter wm_L_82 dL_law_354 rfl (by decide) (by decide) rfl (by simp) (fun r => X.opn (fun g hg => ?_))
  rcases hg with ⟨hc, rfl, hq0⟩ | ⟨hc, rfl, e⟩ | ⟨hc, rfl, e⟩
  · have hq : ∀ q, h q ≠ none → q ≠ u → (∀ i, i < 11 → q ≠ a i) → g q = h q := fun q n0 _ n2 => hq0 q n0 n2
    obtain ⟨j, hj0, ej⟩ := nI_of (Int32.not_lt.mpr hc.1.1)
    have hj : j < 12 := (nI_ltI hj0 (by decide)).mp (by rw [← ej]; exact hc.1.2)
    refine o_istoreE (L' := [some _, some _, some _, some _, some _, some _, none, none]) C dL_law_357 (by rw [hn]; decide) rfl ?_
    refine x_aload_n C dL_law_359 rfl ?_
    refine x_aload_n C dL_law_360 rfl ?_
    refine x_iload C dL_law_361 rfl ?_
    refine x_iconst (v := 1) C dL_law_363 (by decide) ?_
    refine x_iadd C dL_law_364 ?_
    refine w_sld C hz S dL_law_365 (vp_in_nI (n := 1) (N := 7) (by decide) (by decide)) ?_
    refine x_aload_n C dL_law_366 rfl ?_
    refine x_iload C dL_law_367 rfl ?_
    refine x_iconst (v := 2) C dL_law_369 (by decide) ?_
    refine x_iadd C dL_law_370 ?_
    refine w_sld C hz S dL_law_371 (vp_in_nI (n := 2) (N := 7) (by decide) (by decide)) ?_
    refine x_aload_n C dL_law_372 rfl ?_
    refine x_iload C dL_law_373 rfl ?_
    refine x_iconst (v := 3) C dL_law_375 (by decide) ?_
    refine x_iadd C dL_law_376 ?_
    refine w_sld C hz S dL_law_377 (vp_in_nI (n := 3) (N := 7) (by decide) (by decide)) ?_
    refine x_aload_n C dL_law_378 rfl ?_
    refine x_iload C dL_law_379 rfl ?_
    refine x_iconst (v := 4) C dL_law_381 (by decide) ?_
    refine x_iadd C dL_law_382 ?_
    refine w_sld C hz S dL_law_383 (vp_in_nI (n := 4) (N := 7) (by decide) (by decide)) ?_
    refine x_aload_n C dL_law_384 rfl ?_
    refine x_iload C dL_law_385 rfl ?_
    refine x_iconst (v := 5) C dL_law_387 (by decide) ?_
    refine x_iadd C dL_law_388 ?_
    refine w_sld C hz S dL_law_389 (vp_in_nI (n := 5) (N := 7) (by decide) (by decide)) ?_
    refine x_aload_n C dL_law_390 rfl ?_
    refine x_iload C dL_law_391 rfl ?_
    refine x_bipush (v := 6) C dL_law_393 (by decide) ?_
    refine x_iadd C dL_law_395 ?_
    refine w_sld C hz S dL_law_396 (vp_in_nI (n := 6) (N := 7) (by decide) (by decide)) ?_
    rw [ej]
    have hM : MA (c, o, ad, g) Z0 g := I.go hq
    have hWm := I.wm hX g
    refine X.heap (A' := MA (c, o, ad, g) Z0) ?_ (fun q e => by rw [e]; exact hM)
    refine w_callM (st := []) C E Y.1 hWm (s_meter_t hWm j hj _ _ _ _ _ (kg.mp hc.2)) rfl md_X7_meter wi_X7_meter ws_X7_meter wm_L_85 dL_law_397 rfl (by decide) (by decide) rfl (by simp [Value.category]) ?_
    refine x_aload_n C dL_law_400 rfl ?_
    refine w_callM (st := []) C E Y.1 hWm (s_thrown hWm) rfl md_X7_thrown wi_X7_thrown ws_X7_thrown wm_L_70 dL_law_401 rfl (by decide) (by decide) rfl (by simp) ?_
    refine x_iload C dL_law_404 rfl ?_
    refine x_icmp_eq (tgt := 411) C dL_law_406 (by decide) (fun _ => ?_) (fun q => absurd (rfl) q)
    refine x_goto (tgt := 993) C dL_law_411 (by decide) ?_
    exact (K _ _ _ _).room (Nat.zero_le _) (Nat.zero_le _)
  · subst e
    refine o_istoreE (L' := [some _, some _, some _, some _, some _, some _, none, none]) C dL_law_357 (by rw [hn]; decide) rfl ?_
    refine x_aload_n C dL_law_359 rfl ?_
    refine x_aload_n C dL_law_360 rfl ?_
    refine x_iload C dL_law_361 rfl ?_
    refine x_iconst (v := 1) C dL_law_363 (by decide) ?_
    refine x_iadd C dL_law_364 ?_
    refine w_sld C hz S dL_law_365 (vp_in_nI (n := 1) (N := 7) (by decide) (by decide)) ?_
    refine x_aload_n C dL_law_366 rfl ?_
    refine x_iload C dL_law_367 rfl ?_
    refine x_iconst (v := 2) C dL_law_369 (by decide) ?_
    refine x_iadd C dL_law_370 ?_
    refine w_sld C hz S dL_law_371 (vp_in_nI (n := 2) (N := 7) (by decide) (by decide)) ?_
    refine x_aload_n C dL_law_372 rfl ?_
    refine x_iload C dL_law_373 rfl ?_
    refine x_iconst (v := 3) C dL_law_375 (by decide) ?_
    refine x_iadd C dL_law_376 ?_
    refine w_sld C hz S dL_law_377 (vp_in_nI (n := 3) (N := 7) (by decide) (by decide)) ?_
    refine x_aload_n C dL_law_378 rfl ?_
    refine x_iload C dL_law_379 rfl ?_
    refine x_iconst (v := 4) C dL_law_381 (by decide) ?_
    refine x_iadd C dL_law_382 ?_
    refine w_sld C hz S dL_law_383 (vp_in_nI (n := 4) (N := 7) (by decide) (by decide)) ?_
    refine x_aload_n C dL_law_384 rfl ?_
    refine x_iload C dL_law_385 rfl ?_
    refine x_iconst (v := 5) C dL_law_387 (by decide) ?_
    refine x_iadd C dL_law_388 ?_
    refine w_sld C hz S dL_law_389 (vp_in_nI (n := 5) (N := 7) (by decide) (by decide)) ?_
    refine x_aload_n C dL_law_390 rfl ?_
    refine x_iload C dL_law_391 rfl ?_
    refine x_bipush (v := 6) C dL_law_393 (by decide) ?_
    refine x_iadd C dL_law_395 ?_
    refine w_sld C hz S dL_law_396 (vp_in_nI (n := 6) (N := 7) (by decide) (by decide)) ?_
    have hM : MA (c, o, ad, g) Z0 g := I.go (fun q _ _ _ => rfl)
    have hWm := I.wm hX g
    refine X.heap (A' := MA (c, o, ad, g) Z0) ?_ (fun q e => by rw [e]; exact hM)
    refine w_callM (st := []) C E Y.1 hWm (s_meter_x hWm _ _ _ _ _ _ (fun q => hc ⟨q.1.1, lt12.mpr q.1.2⟩)) rfl md_X7_meter wi_X7_meter ws_X7_meter wm_L_85 dL_law_397 rfl (by decide) (by decide) rfl (by simp [Value.category]) ?_
    refine x_aload_n C dL_law_400 rfl ?_
    refine w_callM (st := []) C E Y.1 hWm (s_thrown hWm) rfl md_X7_thrown wi_X7_thrown ws_X7_thrown wm_L_70 dL_law_401 rfl (by decide) (by decide) rfl (by simp) ?_
    refine x_iload C dL_law_404 rfl ?_
    refine x_icmp_eq (tgt := 411) C dL_law_406 (by decide) (fun _ => ?_) (fun q => absurd (if_pos (fun q => hc ⟨q.1, lt12.mpr q.2⟩)) q)
    refine x_goto (tgt := 993) C dL_law_411 (by decide) ?_
    exact (K _ _ _ _).room (Nat.zero_le _) (Nat.zero_le _)
  · subst e
    refine o_istoreE (L' := [some _, some _, some _, some _, some _, some _, none, none]) C dL_law_357 (by rw [hn]; decide) rfl ?_
    refine x_aload_n C dL_law_359 rfl ?_
    refine x_aload_n C dL_law_360 rfl ?_
    refine x_iload C dL_law_361 rfl ?_
    refine x_iconst (v := 1) C dL_law_363 (by decide) ?_
    refine x_iadd C dL_law_364 ?_
    refine w_sld C hz S dL_law_365 (vp_in_nI (n := 1) (N := 7) (by decide) (by decide)) ?_
    refine x_aload_n C dL_law_366 rfl ?_
    refine x_iload C dL_law_367 rfl ?_
    refine x_iconst (v := 2) C dL_law_369 (by decide) ?_
    refine x_iadd C dL_law_370 ?_
    refine w_sld C hz S dL_law_371 (vp_in_nI (n := 2) (N := 7) (by decide) (by decide)) ?_
    refine x_aload_n C dL_law_372 rfl ?_
    refine x_iload C dL_law_373 rfl ?_
    refine x_iconst (v := 3) C dL_law_375 (by decide) ?_
    refine x_iadd C dL_law_376 ?_
    refine w_sld C hz S dL_law_377 (vp_in_nI (n := 3) (N := 7) (by decide) (by decide)) ?_
    refine x_aload_n C dL_law_378 rfl ?_
    refine x_iload C dL_law_379 rfl ?_
    refine x_iconst (v := 4) C dL_law_381 (by decide) ?_
    refine x_iadd C dL_law_382 ?_
    refine w_sld C hz S dL_law_383 (vp_in_nI (n := 4) (N := 7) (by decide) (by decide)) ?_
    refine x_aload_n C dL_law_384 rfl ?_
    refine x_iload C dL_law_385 rfl ?_
    refine x_iconst (v := 5) C dL_law_387 (by decide) ?_
    refine x_iadd C dL_law_388 ?_
    refine w_sld C hz S dL_law_389 (vp_in_nI (n := 5) (N := 7) (by decide) (by decide)) ?_
    refine x_aload_n C dL_law_390 rfl ?_
    refine x_iload C dL_law_391 rfl ?_
    refine x_bipush (v := 6) C dL_law_393 (by decide) ?_
    refine x_iadd C dL_law_395 ?_
    refine w_sld C hz S dL_law_396 (vp_in_nI (n := 6) (N := 7) (by decide) (by decide)) ?_
    have hM : MA (c, o, ad, g) Z0 g := I.go (fun q _ _ _ => rfl)
    have hWm := I.wm hX g
    refine X.heap (A' := MA (c, o, ad, g) Z0) ?_ (fun q e => by rw [e]; exact hM)
    refine w_callM (st := []) C E Y.1 hWm (s_meter_x hWm _ _ _ _ _ _ (fun q => hc.2 (kg.mpr q.2))) rfl md_X7_meter wi_X7_meter ws_X7_meter wm_L_85 dL_law_397 rfl (by decide) (by decide) rfl (by simp [Value.category]) ?_
    refine x_aload_n C dL_law_400 rfl ?_
    refine w_callM (st := []) C E Y.1 hWm (s_thrown hWm) rfl md_X7_thrown wi_X7_thrown ws_X7_thrown wm_L_70 dL_law_401 rfl (by decide) (by decide) rfl (by simp) ?_
    refine x_iload C dL_law_404 rfl ?_
    refine x_icmp_eq (tgt := 411) C dL_law_406 (by decide) (fun _ => ?_) (fun q => absurd (if_neg (not_not_intro ⟨hc.1.1, lt12.mp hc.1.2⟩)) q)
    refine x_goto (tgt := 993) C dL_law_411 (by decide) ?_
    exact (K _ _ _ _).room (Nat.zero_le _) (Nat.zero_le _)
theorem c_send (Q : LC w c z b xs a o ad u h) : X z 6 194 (EQ h) 613 [some (.ref b), some (.ref (a 0)), some (.ref o), some (.ref u), some (.int 0), none, none, none] [] := by
  obtain ⟨hX, C, E, hz, S, I, K⟩ := Q
  have Y := Cty.of hX.1 E
  have hn : z.nL = 8 := hz.2.2.2.1
  have F := I.1
  have hoa : ∀ i, i < 11 → u ≠ a i := fun i hi => (I.2.2.2.2.1 i hi).1
  refine x_aload_n C dL_law_613 rfl ?_
  refine k_callV (kc := 6) (ks := 194) (mc' := 0) (ms' := 0) (st := []) C E hX.1.1 gw_good (m_send hX F) md_X6_send wi_X6_send ws_X6_send wm_L_96 dL_law_614 rfl (by decide) (by decide) (fun q e => by rw [e]; exact F.x) (by rw [Y.1]; rfl) rfl (by simp) (fun r => X.opn (fun g hg => ?_))
  obtain ⟨rfl, hq⟩ := hg
  refine x_aload_n C dL_law_617 rfl ?_
  have hM : MA (c, o, ad, g) Z0 g := I.go (fun q _ _ n => hq q (n 1 (by decide)) (n 2 (by decide)) (n 3 (by decide)))
  have hWm := I.wm hX g
  refine X.heap (A' := MA (c, o, ad, g) Z0) ?_ (fun q e => by rw [e]; exact hM)
  refine w_callM (st := [_]) C E Y.1 hWm (s_send hWm MH.init.1.mi.2.1 0 rfl (by decide)) rfl md_X7_send wi_X7_send ws_X7_send wm_L_99 dL_law_618 rfl (by decide) (by decide) rfl (by simp [Value.category]) ?_
  refine x_icmp_eq (tgt := 993) C dL_law_621 (by decide) (fun _ => (K _ _ _ _).room (Nat.zero_le _) (Nat.zero_le _)) (fun q => absurd (z_send.symm) q)
theorem c_search (Q : LC w c z b xs a o ad u h) : X z 6 194 (EQ h) 626 [some (.ref b), some (.ref (a 0)), some (.ref o), some (.ref u), some (.int 0), none, none, none] [] := by
  obtain ⟨hX, C, E, hz, S, I, K⟩ := Q
  have Y := Cty.of hX.1 E
  have hn : z.nL = 8 := hz.2.2.2.1
  have F := I.1
  have hoa : ∀ i, i < 11 → u ≠ a i := fun i hi => (I.2.2.2.2.1 i hi).1
  refine x_aload_n C dL_law_626 rfl ?_
  refine k_callV (kc := 6) (ks := 194) (mc' := 0) (ms' := 0) (st := []) C E hX.1.1 gw_good (m_search hX F) md_X6_search wi_X6_search ws_X6_search wm_L_100 dL_law_627 rfl (by decide) (by decide) (fun q e => by rw [e]; exact F.x) (by rw [Y.1]; rfl) rfl (by simp) (fun r => X.opn (fun g hg => ?_))
  obtain ⟨rfl, hq⟩ := hg
  refine x_aload_n C dL_law_630 rfl ?_
  have hM : MA (c, o, ad, g) Z0 g := I.go (fun q _ _ n => hq q (n 0 (by decide)) (n 3 (by decide)))
  have hWm := I.wm hX g
  refine X.heap (A' := MA (c, o, ad, g) Z0) ?_ (fun q e => by rw [e]; exact hM)
  refine w_callM (st := [_]) C E Y.1 hWm (g_search hWm MH.init.1) rfl md_X7_search wi_X7_search ws_X7_search wm_L_103 dL_law_631 rfl (by decide) (by decide) rfl (by simp [Value.category]) ?_
  refine x_icmp_eq (tgt := 993) C dL_law_634 (by decide) (fun _ => (K _ _ _ _).room (Nat.zero_le _) (Nat.zero_le _)) (fun q => absurd (z_search.symm) q)
theorem c_decode (Q : LC w c z b xs a o ad u h) : X z 6 194 (EQ h) 763 [some (.ref b), some (.ref (a 0)), some (.ref o), some (.ref u), some (.int 0), none, none, none] [] := by
  obtain ⟨hX, C, E, hz, S, I, K⟩ := Q
  have Y := Cty.of hX.1 E
  have hn : z.nL = 8 := hz.2.2.2.1
  have F := I.1
  have hoa : ∀ i, i < 11 → u ≠ a i := fun i hi => (I.2.2.2.2.1 i hi).1
  refine x_aload_n C dL_law_763 rfl ?_
  refine k_callV (kc := 6) (ks := 194) (mc' := 0) (ms' := 0) (st := []) C E hX.1.1 gw_good (m_decode hX F) md_X6_decode wi_X6_decode ws_X6_decode wm_L_110 dL_law_764 rfl (by decide) (by decide) (fun q e => by rw [e]; exact F.x) (by rw [Y.1]; rfl) rfl (by simp) (fun r => X.opn (fun g hg => ?_))
  obtain ⟨rfl, e⟩ := hg
  refine x_aload_n C dL_law_767 rfl ?_
  have hM : MA (c, o, ad, g) Z0 g := I.go (fun q _ _ n => by rw [e, hs_ne (n 9 (by decide))])
  have hWm := I.wm hX g
  refine X.heap (A' := MA (c, o, ad, g) Z0) ?_ (fun q e => by rw [e]; exact hM)
  refine w_callM (st := [_]) C E Y.1 hWm (g_decode hWm MH.init 0 rfl (by decide)) rfl md_X7_decode wi_X7_decode ws_X7_decode wm_L_113 dL_law_768 rfl (by decide) (by decide) rfl (by simp [Value.category]) ?_
  refine x_icmp_eq (tgt := 993) C dL_law_771 (by decide) (fun _ => (K _ _ _ _).room (Nat.zero_le _) (Nat.zero_le _)) (fun q => absurd (z_decR.symm) q)
theorem c_place (Q : LC w c z b xs a o ad u h) : X z 6 194 (EQ h) 776 [some (.ref b), some (.ref (a 0)), some (.ref o), some (.ref u), some (.int 0), none, none, none] [] := by
  obtain ⟨hX, C, E, hz, S, I, K⟩ := Q
  have Y := Cty.of hX.1 E
  have hn : z.nL = 8 := hz.2.2.2.1
  have F := I.1
  have hoa : ∀ i, i < 11 → u ≠ a i := fun i hi => (I.2.2.2.2.1 i hi).1
  refine x_aload_n C dL_law_776 rfl ?_
  refine k_callV (kc := 6) (ks := 194) (mc' := 0) (ms' := 0) (st := []) C E hX.1.1 gw_good (m_place hX F) md_X6_place wi_X6_place ws_X6_place wm_L_114 dL_law_777 rfl (by decide) (by decide) (fun q e => by rw [e]; exact F.x) (by rw [Y.1]; rfl) rfl (by simp) (fun r => X.opn (fun g hg => ?_))
  obtain ⟨rfl, e⟩ := hg
  refine x_aload_n C dL_law_780 rfl ?_
  have hM : MA (c, o, ad, g) Z0 g := I.go (fun q _ _ n => by rw [e])
  have hWm := I.wm hX g
  refine X.heap (A' := MA (c, o, ad, g) Z0) ?_ (fun q e => by rw [e]; exact hM)
  refine w_callM (st := [_]) C E Y.1 hWm (s_place hWm) rfl md_X7_place wi_X7_place ws_X7_place wm_L_117 dL_law_781 rfl (by decide) (by decide) rfl (by simp [Value.category]) ?_
  refine x_icmp_eq (tgt := 993) C dL_law_784 (by decide) (fun _ => (K _ _ _ _).room (Nat.zero_le _) (Nat.zero_le _)) (fun q => absurd (rfl) q)
theorem c_clear (Q : LC w c z b xs a o ad u h) : X z 6 194 (EQ h) 789 [some (.ref b), some (.ref (a 0)), some (.ref o), some (.ref u), some (.int 0), none, none, none] [] := by
  obtain ⟨hX, C, E, hz, S, I, K⟩ := Q
  have Y := Cty.of hX.1 E
  have hn : z.nL = 8 := hz.2.2.2.1
  have F := I.1
  have hoa : ∀ i, i < 11 → u ≠ a i := fun i hi => (I.2.2.2.2.1 i hi).1
  refine x_aload_n C dL_law_789 rfl ?_
  refine k_callV (kc := 6) (ks := 194) (mc' := 0) (ms' := 0) (st := []) C E hX.1.1 gw_good (m_clear hX F) md_X6_clear wi_X6_clear ws_X6_clear wm_L_118 dL_law_790 rfl (by decide) (by decide) (fun q e => by rw [e]; exact F.x) (by rw [Y.1]; rfl) rfl (by simp) (fun r => X.opn (fun g hg => ?_))
  obtain ⟨rfl, e⟩ := hg
  refine x_aload_n C dL_law_793 rfl ?_
  have hM : MA (c, o, ad, g) Z0 g := I.go (fun q _ _ n => by rw [e])
  have hWm := I.wm hX g
  refine X.heap (A' := MA (c, o, ad, g) Z0) ?_ (fun q e => by rw [e]; exact hM)
  refine w_callM (st := [_]) C E Y.1 hWm (s_clear hWm) rfl md_X7_clear wi_X7_clear ws_X7_clear wm_L_121 dL_law_794 rfl (by decide) (by decide) rfl (by simp [Value.category]) ?_
  refine x_icmp_eq (tgt := 993) C dL_law_797 (by decide) (fun _ => (K _ _ _ _).room (Nat.zero_le _) (Nat.zero_le _)) (fun q => absurd (rfl) q)
end Cases
