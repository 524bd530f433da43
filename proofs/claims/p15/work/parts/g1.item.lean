/-! The decoder against the model: one item. -/
/-- the frame's bytes are the model's data; where it stands -/
def DA0 (fb : Nat → Int32) (nb : Nat) (S : MS) (i m : Nat) : Prop := (∀ j, j < nb → fb j = S.a 38 j) ∧ (∀ j, byt (S.a 38 j)) ∧ S.i 40 = nI i ∧ S.i 39 = nI m ∧ i ≤ m ∧ m ≤ 256 ∧ m ≤ nb ∧ S.i 41 = 0 ∧ (S.i 37 = 0 ∨ S.i 37 = 1)
/-- the list and the decoder, between two items -/
def EH (c : Nat → ClassId) (a : Nat → Nat) (h0 : PH) (W : Nat → Prop) (b : Nat) (κ ω : Nat → Nat) (S : MS) (r : Nat) (gr : Nat → Option Nat) (h : PH) : Prop := ELx c a κ ω S h r gr ∧ DK c (a 7) (a 8) (a 9) h0 W κ h ∧ ∃ fa pl : Int32, h (a 9) = some (.inr (1, [.ref (a 7), .ref b, .int (S.i 40), .int (S.i 39), .int fa, .int pl, .int (S.i 37)]))
/-- behind an item -/
def IPo (c : Nat → ClassId) (a : Nat → Nat) (h0 : PH) (W : Nat → Prop) (b : Nat) (fb : Nat → Int32) (nb lo m : Nat) (S : MS) (r : Nat) (q : Option Value) (g : PH) : Prop := (q = some (.int 1) ∧ ∃ κ' ω' r' gr' j, EH c a h0 W b κ' ω' (f_rcd S) r' gr' g ∧ lo ≤ j ∧ DA0 fb nb (f_rcd S) j m ∧ KR r (f_tx S) S (f_rcd S) ∧ r ≤ r' ∧ f_tx S ≤ f_tx (f_rcd S)) ∨ (q = some (.int 0) ∧ ¬ (f_rcd S).i 41 = 0 ∧ KR r (f_tx S) S (f_rcd S) ∧ ∃ κ' ω' gr', ELx c a κ' ω' S g r gr' ∧ DK c (a 7) (a 8) (a 9) h0 W κ' g)
section Item
variable {w : Wd} {c : Nat → ClassId} {a : Nat → Nat} {h h0 g : PH} {b ba nb r : Nat} {W : Nat → Prop} {fb : Nat → Int32} {κ ω : Nat → Nat} {S S' : MS} {gr : Nat → Option Nat}
theorem KR.rcd (er : f_r S = r) : KR r (f_tx S) S (f_rcd S) := by
  unfold f_rcd
  dsimp only
  rw [er]
  split
  · exact KR.si _ _ _
  · split
    · split
      · exact ((KR.si _ _ _).tr (KR.si _ _ _)).tr (KR.bl _ _ _)
      · exact (KR.si _ _ _).tr (KR.si _ _ _)
    · split
      · exact (KR.si _ _ _).tr (KR.bl _ _ _)
      · split
        · exact (KR.si _ _ _).tr (KR.bl _ _ _)
        · split
          · exact ((((KR.si _ _ _).tr (KR.rec0 _ _)).tr (KR.sw _ _ _)).tr (KR.text _ _ _)).tr (KR.si _ _ _)
          · refine (((KR.si S 40 (nI (f_at S + 1))).tr (KR.rec0 _ (S.a 38 (f_at S)))).tr (KR.dl 12 _ (S.a 38 (f_at S)) 0)).tr ((KR.vl 13 _ 128 0).tr ?_)
            have e1 : (f_vl r 13 (f_dl r 12 (f_rec0 (S.si 40 (nI (f_at S + 1))) r (S.a 38 (f_at S))) (S.a 38 (f_at S)) 0) 128 0).i 23 = S.i 23 := by rw [vl_i (by decide) (by decide) (by decide), dl_i (by decide) (by decide) (by decide)]; rfl
            have e2 : (f_vl r 13 (f_dl r 12 (f_rec0 (S.si 40 (nI (f_at S + 1))) r (S.a 38 (f_at S))) (S.a 38 (f_at S)) 0) 128 0).i 34 = S.i 34 := by rw [vl_i (by decide) (by decide) (by decide), dl_i (by decide) (by decide) (by decide)]; rfl
            generalize f_vl r 13 (f_dl r 12 (f_rec0 (S.si 40 (nI (f_at S + 1))) r (S.a 38 (f_at S))) (S.a 38 (f_at S)) 0) 128 0 = S4 at e1 e2
            unfold f_ends
            split
            · exact (KR.value (by unfold f_r; rw [e1]; exact er) (by unfold f_tx; rw [e2])).tr (KR.si _ _ _)
            · exact KR.rf _
theorem ELx.go (E : ELx c a κ ω S h r gr) (e7 : g (a 7) = h (a 7)) (e8 : g (a 8) = h (a 8)) (e : ∀ q, ω q ≠ 0 → g q = h q) (s : LSx S S') : ELx c a κ ω S' g r gr := by
  obtain ⟨x0, x1, x2, x3, x4, x5, x6, x7⟩ := E
  refine ⟨x0, by rw [e7]; exact x1, (s.1 23 (Or.inl rfl)).trans x2, x3, by rw [e8]; exact x4, fun i p hi hp => ?_, fun i hi => ?_, fun i hi j hj => ?_⟩
  · have L := x5 i p hi hp
    exact L.go (e p (by rw [L.1]; omega))
  · obtain ⟨p, p1, p2⟩ := x6 i hi
    have L := x5 i p (by omega) p1
    exact ⟨p, p1, p2.go L (fun q q1 _ => e q (by omega)) (fun q _ => s.2.1 q i) (fun q hq => s.2.2 q i (by omega) (by omega)) (fun j _ => s.2.2 31 _ (by omega) (by omega)) (fun j _ => s.2.2 35 _ (by omega) (by omega))⟩
  · rw [s.2.2 33 i (by omega) (by omega)] at hj
    rw [s.2.2 32 i (by omega) (by omega), show f_tx S' = f_tx S from by unfold f_tx; rw [s.1 34 (Or.inr rfl)]]
    exact x7 i hi j hj
/-- only the decoder's own cell is new -/
theorem EH.putD (Q : ELx c a κ ω S h r gr ∧ DK c (a 7) (a 8) (a 9) h0 W κ h) (s : LSx S S') (fr : Value) (at_ en fa pl mo : Int32) (hm : mo = 0 ∨ mo = 1) : ELx c a κ ω S' (hs h (a 9) (.inr (1, [.ref (a 7), fr, .int at_, .int en, .int fa, .int pl, .int mo]))) r gr ∧ DK c (a 7) (a 8) (a 9) h0 W κ (hs h (a 9) (.inr (1, [.ref (a 7), fr, .int at_, .int en, .int fa, .int pl, .int mo]))) := by
  obtain ⟨E, D⟩ := Q
  obtain ⟨l1, l2, l3, l4, l5, l6⟩ := D.2.2.2.2.1
  exact ⟨E.go (hs_ne l5) (hs_ne l6) (fun q hq => hs_ne (fun e => E.1 q hq (by rw [e]; exact l3))) s, D.putD _ _ _ _ _ _ hm⟩
theorem d_item0X (hX : Wx w c) (R : RW c h0 b ba fb nb) (o1 : W b) (o2 : W ba) (H : EH c a h0 W b κ ω S r gr h) {i m : Nat} (A : DA0 fb nb S i m) (hi : i < m) (er : f_r S = r) (hv : fb i = 47 ∨ fb i = 31) : T w gw yX1_readItem cX1_readItem 5 (some .boolean) 6 (40 * 6) 0 0 [.ref (a 9)] (EQ h) (IPo c a h0 W b fb nb (i + 1) m S r) := by
  have hW := hX.1
  refine TA.intro hW rfl (by decide +kernel) (Nat.le_of_ble_eq_true rfl) (fun z C Y E hn h1 hA => ?_)
  rw [show h1 = h from hA]
  clear hA
  obtain ⟨XE, D, fa, pl, B⟩ := id H
  obtain ⟨A1, A2, A3, A4, A5, A6, A7, A8, A9⟩ := id A
  obtain ⟨-, fat, fen⟩ := WFp.of A3 A4 A5 (by omega)
  have Rh := D.row R o1 o2
  have kr := KR.rcd (S := S) er
  have tk := d_take hW B Rh
  rw [A3, rAt_in (show i < nb by omega) Rh.2.2.2, A1 i (by omega), nI_1] at tk
  rw [A1 i (by omega)] at hv
  refine x_aload_n C dX1_readItem_0 rfl ?_
  refine e_get C Y kd_X1 2 (by decide) wf_X1_9 dX1_readItem_1 B rfl ?_
  refine o_istore_nE (L' := [some _, some _, none, none, none]) C dX1_readItem_4 (by rw [hn]; decide) rfl ?_
  refine x_aload_n C dX1_readItem_5 rfl ?_
  refine u_callV (st := []) C Y hW E.cs tk md_X1_take wi_X1_take ws_X1_take wm_X1_85 dX1_readItem_6 rfl (by decide) (by decide) B rfl rfl (by decide) ?_
  refine o_istore_nE (L' := [some _, some _, some _, none, none]) C dX1_readItem_9 (by rw [hn]; decide) rfl ?_
  refine x_iload_n C dX1_readItem_10 rfl ?_
  refine x_bipush (v := 47) C dX1_readItem_11 (by decide) ?_
  refine x_icmp_ne (tgt := 18) C dX1_readItem_13 (by decide) (fun q => ?_) (fun q => ?_)
  rotate_left
  · refine x_iconst (v := 1) C dX1_readItem_16 (by decide) ?_
    refine x_zret C E dX1_readItem_17 (by decide) (fun g e => ?_)
    rw [show g = _ from e]
    have ef := rcd_fill fat q
    rw [ef] at kr
    refine Or.inl ⟨rfl, ?_⟩
    rw [ef]
    have P := EH.putD (S' := S.si 40 (nI (i + 1))) ⟨XE, D⟩ (LSx.si S 40 _ (by decide)) (.ref b) (nI (i + 1)) (S.i 39) fa pl (S.i 37) A9
    exact ⟨κ, ω, r, gr, i + 1, ⟨P.1, P.2, fa, pl, hs_self ..⟩, Nat.le_refl _, ⟨A1, A2, rfl, A4, hi, A6, A7, A8, A9⟩, kr, Nat.le_refl _, Nat.le_refl _⟩
  have hv2 : S.a 38 i = 31 := hv.resolve_left q
  have ef := rcd_more fat fen hv2
  refine x_iload_n C dX1_readItem_18 rfl ?_
  refine x_bipush (v := 31) C dX1_readItem_19 (by decide) ?_
  refine x_icmp_ne (tgt := 58) C dX1_readItem_21 (by decide) (fun q => absurd hv2 q) (fun _ => ?_)
  refine x_aload_n C dX1_readItem_24 rfl ?_
  refine x_iconst (v := 1) C dX1_readItem_25 (by decide) ?_
  refine e_put C Y kd_X1 6 (by decide) rfl wf_X1_24 dX1_readItem_26 (hs_self ..) (Nat.le_of_ble_eq_true rfl) (by decide) (by decide) (hs_hs ..) ?_
  refine x_aload_n C dX1_readItem_29 rfl ?_
  refine e_get C Y kd_X1 2 (by decide) wf_X1_9 dX1_readItem_30 (hs_self ..) rfl ?_
  refine x_aload_n C dX1_readItem_33 rfl ?_
  refine e_get C Y kd_X1 3 (by decide) wf_X1_15 dX1_readItem_34 (hs_self ..) rfl ?_
  refine x_icmp_eq (tgt := 52) C dX1_readItem_37 (by decide) (fun q => ?_) (fun q => ?_)
  · have em : i + 1 = m := by
      have q9 : nI (i + 1) = S.i 39 := q
      rw [A4] at q9
      exact (nI_eq (by omega) (by omega)).mp q9
    rw [if_neg (show ¬ i + 1 < m by omega)] at ef
    refine x_iconst (v := 1) C dX1_readItem_52 (by decide) ?_
    refine x_goto (tgt := 57) C dX1_readItem_53 (by decide) ?_
    refine x_zret C E dX1_readItem_57 (by decide) (fun g e => ?_)
    rw [show g = _ from e]
    rw [ef] at kr
    refine Or.inl ⟨rfl, ?_⟩
    rw [ef]
    have P := EH.putD (S' := (S.si 40 (nI (i + 1))).si 37 1) ⟨XE, D⟩ ((LSx.si S 40 _ (by decide)).tr (LSx.si _ 37 _ (by decide))) (.ref b) (nI (i + 1)) (S.i 39) fa pl 1 (Or.inr rfl)
    exact ⟨κ, ω, r, gr, i + 1, ⟨P.1, P.2, fa, pl, hs_self ..⟩, Nat.le_refl _, ⟨A1, A2, rfl, A4, hi, A6, A7, A8, Or.inr rfl⟩, kr, Nat.le_refl _, Nat.le_refl _⟩
  · have em : i + 1 < m := by
      by_cases y : i + 1 = m
      · exact absurd (show nI (i + 1) = S.i 39 by rw [A4, y]) q
      · omega
    rw [if_pos em] at ef
    refine x_aload_n C dX1_readItem_40 rfl ?_
    refine x_iconst (v := 4) C dX1_readItem_41 (by decide) ?_
    refine x_aload_n C dX1_readItem_42 rfl ?_
    refine e_get C Y kd_X1 2 (by decide) wf_X1_9 dX1_readItem_43 (hs_self ..) rfl ?_
    refine u_callV (st := []) C Y hW E.cs (d_wrong hW (hs_self ..) 4 _) md_X1_wrong wi_X1_wrong ws_X1_wrong wm_X1_67 dX1_readItem_46 rfl (by decide) (by decide) (hs_self ..) rfl rfl (by decide) ?_
    refine x_if_eq (tgt := 56) C dX1_readItem_49 (by decide) (fun _ => ?_) (fun q => absurd rfl q)
    refine x_iconst (v := 0) C dX1_readItem_56 (by decide) ?_
    refine x_zret C E dX1_readItem_57 (by decide) (fun g e => ?_)
    rw [show g = _ from e, hs_hs]
    have P := EH.putD (S' := S) ⟨XE, D⟩ (LSx.rf S) (.ref b) (nI (i + 1)) (S.i 39) 4 (nI (i + 1)) 1 (Or.inr rfl)
    exact Or.inr ⟨rfl, by rw [ef]; exact bl_no A8 (by decide), kr, κ, ω, gr, P.1, P.2⟩
end Item
