/-! A MeterBus against the model: PROBE, the search whole. -/
section Mod
variable {S : MS}
theorem outV_M : (outV (f_putM S) = 1 ↔ (f_putM S).i 7 = 1) ∧ (outV (f_putM S) = -2 ↔ 1 < (f_putM S).i 7) := by
  have e7 := putM_7 S
  have cl := cntM_le S 12
  unfold outV
  by_cases q1 : (f_putM S).i 7 = 1
  · rw [if_pos q1, putM_6 q1]
    exact ⟨⟨fun _ => q1, fun _ => rfl⟩, ⟨fun q => absurd q (by decide), fun q => by rw [q1] at q; exact absurd q (by decide)⟩⟩
  · rw [if_neg q1]
    by_cases q0 : (f_putM S).i 7 = 0
    · rw [if_pos q0]
      exact ⟨⟨fun q => absurd q (by decide), fun q => absurd q q1⟩, ⟨fun q => absurd q (by decide), fun q => by rw [q0] at q; exact absurd q (by decide)⟩⟩
    · rw [if_neg q0]
      refine ⟨⟨fun q => absurd q (by decide), fun q => absurd q q1⟩, ⟨fun _ => ?_, fun _ => rfl⟩⟩
      rw [e7]
      refine nI_lt (a := 1) (Nat.lt_of_not_le fun q => ?_) (by omega)
      rcases (show cntM S 12 = 0 ∨ cntM S 12 = 1 by omega) with e | e
      · exact q0 (by rw [e7, e]; rfl)
      · exact q1 (by rw [e7, e]; rfl)
theorem LSx.part (S : MS) (n : Nat) (x y : Int32) : LSx S (f_part (S.sa 22 n x) n y) := ⟨fun q hq => by rw [part_i]; rfl, fun q j => part_w n y q j, fun q j q1 q2 => by rw [part_ne (by omega), sa_ne (by omega)]⟩
end Mod
section Search
variable {w : Wd} {c : Nat → ClassId} {a : Nat → Nat} {h9 : PH} {V : Nat → Prop} {α : Nat → Int64} {f : Nat → Option Nat} {κ κd ω ωd : Nat → Nat} {S S' : MS} {h g : PH}
theorem ZI.part (Z : ZI c a h9 V α f κ κd ω ωd S h) (n : Nat) (x y : Int32) (wf : WFb (f_part (S.sa 22 n x) n y)) : ZI c a h9 V α f κ κd ω ωd (f_part (S.sa 22 n x) n y) h :=
  Z.mod ⟨(Z.2.2.1.1.sa (by decide) (by decide) (by decide)).part, wf⟩ (fun q j hq => by rw [part_ne (by omega), sa_ne (by omega)]) (fun q hq => by rw [part_i]; rfl) (LSx.part S n x y)
/-- a mask by its parts -/
theorem ABwp {mk : Int64} {C : MS} (hS : WFb S) (hC : WFb C) (hm : AB mk (fun b => S.a 19 b)) {n v : Nat} (hn : n < 12) (hv : v < if n < 8 then 16 else 256) (cp : ∀ m, m < 12 → prt (mby C) m = if m = n then v else prt (mby S) m) : AB (wpF mk n v) (fun b => C.a 19 b) := by
  refine (ABprt (F := mby C) (fun b _ => hC.m b)).mpr (fun t ht => ?_)
  have pl : pidx t < 12 := by unfold pidx; split <;> omega
  rw [wpF_bit mk hn hv ht, cp _ pl]
  by_cases e : pidx t = n
  · rw [if_pos e, if_pos e]
  · rw [if_neg e, if_neg e]
    exact (ABprt (F := mby S) (fun b _ => hS.m b)).mp hm t ht
/-- PROBE n, m = 12 - n: as deep as it goes -/
theorem zy_probe (hX : Wx w c) : ∀ (m n : Nat) (mk : Int64) (S : MS) (h : PH) (fn : Nat), n + m = 12 → ZI c a h9 V α f κ κd ω ωd S h → DS S → S.i 20 = nI fn → fn + cntM S 12 ≤ 12 → (∀ q, n ≤ q → q < 12 → prt (mby S) q = wld q) → (∀ q, q < n → q < 12 → prt (mby S) q ≠ wld q) → AB mk (fun b => S.a 19 b) →
    T w gw yX6_probe cX6_probe 7 none (7 + m) (40 * (7 + m)) 0 0 [.ref (a 0), .int (nI n), .long mk] (EQ h) (fun r g => r = none ∧ ∃ S', PRo (m + 1) n S = some S' ∧ ZI c a h9 V α f κ κd ω ωd S' g) := by
  intro m
  induction m with
  | zero =>
    intro n mk S h fn hm Z ds h20 hf hw hv hab
    obtain rfl : n = 12 := by omega
    have hW := hX.1
    refine TA.intro hW rfl (by decide +kernel) (Nat.le_of_ble_eq_true rfl) (fun z C Y E hn h1 hA => ?_)
    rw [show h1 = h from hA]
    clear hA
    obtain ⟨S', eP, -⟩ := PR_ok 1 12 S fn (by decide) (by decide) Z.2.2.1.2 Z.2.2.1.1 ds h20 (by omega) hw hv
    rw [eP] at E
    rw [PRo] at eP
    obtain ⟨o1, o2⟩ := outV_M (S := S)
    have n2 : ¬ 1 < (f_putM S).i 7 := fun q => by rw [if_pos q, if_neg (by decide)] at eP; exact nomatch eP
    rw [if_neg n2] at eP
    have eS : f_one (f_putM S) = S' := by
      split at eP
      · exact Option.some.inj eP
      · exact nomatch eP
    subst eS
    have p20 : (f_putM S).i 20 = nI fn := (f_putM_i _ (by decide) (by decide) (by decide) (by decide) (by decide)).trans h20
    have e7 := putM_7 S
    have cl := cntM_le S 12
    refine x_aload_n C dX6_probe_0 rfl ?_
    refine e_get C Y kd_X6 1 (by decide) wf_X6_19 dX6_probe_1 Z.x rfl ?_
    refine x_lload_n C dX6_probe_4 rfl ?_
    refine k_putM (st := []) hX C Y E.cs (by decide) (by decide) Z hab dX6_probe_5 (by decide) (fun g Zg _ => ?_)
    have T87 : ∀ (g : PH) (L : List (Option Value)), ZI c a h9 V α f κ κd ω ωd (f_one (f_putM S)) g → X z 0 0 (EQ g) 87 L [] := fun g L Z => x_vret C E dX6_probe_87 (fun g e => ⟨rfl, _, rfl, by rw [show g = _ from e]; exact Z⟩)
    refine o_istoreE (L' := [some _, some _, some _, none, some _, none, none]) C dX6_probe_8 (by rw [hn]; decide) rfl ?_
    refine x_iload C dX6_probe_10 rfl ?_
    refine x_iconst (v := 1) C dX6_probe_12 (by decide) ?_
    refine x_icmp_ne (tgt := 28) C dX6_probe_13 (by decide) (fun q1 => ?_) (fun q1 => ?_)
    · have e1 : f_one (f_putM S) = f_putM S := if_neg (fun q => q1 (o1.mpr q))
      rw [e1] at T87
      refine x_iload C dX6_probe_28 rfl ?_
      refine x_bipush (v := (-2)) C dX6_probe_30 (by decide) ?_
      exact x_icmp_ne (tgt := 87) C dX6_probe_32 (by decide) (fun _ => T87 _ _ Zg) (fun q => absurd (o2.mp q) n2)
    · have q7 := o1.mp q1
      have ec : f_c (f_putM S) = fn := by unfold f_c; rw [p20, nI_clamp (by omega)]
      have e1 : f_one (f_putM S) = f_find (f_putM S) fn := by unfold f_one; rw [if_pos q7, ec]
      have f12 : fn < 12 := by
        have : cntM S 12 = 1 := (nI_eq (by omega) (by omega)).mp (e7.symm.trans q7)
        omega
      rw [e1] at T87
      refine x_aload_n C dX6_probe_16 rfl ?_
      refine x_lload_n C dX6_probe_17 rfl ?_
      refine k_callR (kc := 0) (ks := 0) (mc' := 0) (ms' := 0) (st := []) C Y hW E.cs (zy_reset hX Zg (mk := mk) (fun b hb => (hab b hb).trans (putM_bz rfl (by decide)).symm)) rfl md_X6_resetSelected wi_X6_resetSelected ws_X6_resetSelected wm_X6_221 dX6_probe_18 rfl (by decide) (by decide) Zg.x rfl rfl (by decide) (fun r g2 hg => ?_)
      obtain ⟨rfl, Z2⟩ := hg
      refine x_aload_n C dX6_probe_21 rfl ?_
      have p20' : (f_putM (f_putS (f_putM S) 64)).i 20 = nI fn := (f_putM_i _ (by decide) (by decide) (by decide) (by decide) (by decide)).trans ((f_putS_i _ _ (by decide) (by decide) (by decide) (by decide) (by decide)).trans p20)
      refine k_callR (kc := 0) (ks := 0) (mc' := 0) (ms' := 0) (st := []) C Y hW E.cs (zy_addFound hX Z2 p20' f12) rfl md_X6_addFound wi_X6_addFound ws_X6_addFound wm_X6_225 dX6_probe_22 rfl (by decide) (by decide) Z2.x rfl rfl (by decide) (fun r g3 hg => ?_)
      obtain ⟨rfl, Z3⟩ := hg
      exact x_goto (tgt := 87) C dX6_probe_25 (by decide) (T87 _ _ Z3)
  | succ m ih =>
    intro n mk S h fn hm Z ds h20 hf hw hv hab
    have hW := hX.1
    have n12 : n < 12 := by omega
    refine TA.intro hW rfl (by decide +kernel) (Nat.le_of_ble_eq_true rfl) (fun z C Y E hn h1 hA => ?_)
    rw [show h1 = h from hA]
    clear hA
    obtain ⟨o1, o2⟩ := outV_M (S := S)
    have p20 : (f_putM S).i 20 = nI fn := (f_putM_i _ (by decide) (by decide) (by decide) (by decide) (by decide)).trans h20
    have e7 := putM_7 S
    have cl := cntM_le S 12
    have ec : f_c (f_putM S) = fn := by unfold f_c; rw [p20, nI_clamp (by omega)]
    have cOK : f_cOK (f_putM S) = true := by unfold f_cOK; rw [ec, p20]; simp; omega
    refine x_aload_n C dX6_probe_0 rfl ?_
    refine e_get C Y kd_X6 1 (by decide) wf_X6_19 dX6_probe_1 Z.x rfl ?_
    refine x_lload_n C dX6_probe_4 rfl ?_
    refine k_putM (st := []) hX C Y E.cs (by omega) (by omega) Z hab dX6_probe_5 (by decide) (fun g Zg _ => ?_)
    have T87 : ∀ (S' : MS), PRo (m + 1 + 1) n S = some S' → ∀ (g : PH) (L : List (Option Value)), ZI c a h9 V α f κ κd ω ωd S' g → X z 0 0 (EQ g) 87 L [] := fun S' eP g L Z => x_vret C E dX6_probe_87 (fun g e => ⟨rfl, _, eP, by rw [show g = _ from e]; exact Z⟩)
    refine o_istoreE (L' := [some _, some _, some _, none, some _, none, none]) C dX6_probe_8 (by rw [hn]; decide) rfl ?_
    refine x_iload C dX6_probe_10 rfl ?_
    refine x_iconst (v := 1) C dX6_probe_12 (by decide) ?_
    refine x_icmp_ne (tgt := 28) C dX6_probe_13 (by decide) (fun q1 => ?_) (fun q1 => ?_)
    · have n7 : ¬ (f_putM S).i 7 = 1 := fun q => q1 (o1.mpr q)
      refine x_iload C dX6_probe_28 rfl ?_
      refine x_bipush (v := (-2)) C dX6_probe_30 (by decide) ?_
      refine x_icmp_ne (tgt := 87) C dX6_probe_32 (by decide) (fun q2 => ?_) (fun q2 => ?_)
      · exact T87 (f_putM S) (by rw [PRo, if_neg (fun q => q2 (o2.mpr q)), if_pos cOK, show f_one (f_putM S) = f_putM S from if_neg n7]) _ _ Zg
      have gt := o2.mp q2
      have eP0 : PRo (m + 1 + 1) n S = PRk (PRo (m + 1) (n + 1)) n (limN n) 0 (f_putM S) := by rw [PRo, if_pos gt, if_pos n12]
      rw [eP0] at T87
      refine x_iload_n C dX6_probe_35 rfl ?_
      refine x_bipush (v := 12) C dX6_probe_36 (by decide) ?_
      refine x_icmp_ge (tgt := 87) C dX6_probe_38 (by decide) (fun q => absurd q (Int32.not_le.mpr (nI_lt (b := 12) n12 (by decide)))) (fun _ => ?_)
      have LP : ∀ (cc v : Nat) (Q : MS) (g : PH) (f1 : Nat), v + cc = limN n → ZI c a h9 V α f κ κd ω ωd Q g → SM S Q → (∀ q, q < 12 → q ≠ n → prt (mby Q) q = prt (mby S) q) → Q.i 20 = nI f1 → f1 + cn (geM S n v) 12 ≤ 12 → (∀ S', PRk (PRo (m + 1) (n + 1)) n cc v Q = some S' → PRk (PRo (m + 1) (n + 1)) n (limN n) 0 (f_putM S) = some S') → X z 0 0 (EQ g) 60 [some (.ref (a 0)), some (.int (nI n)), some (.long mk), none, some (.int (outV (f_putM S))), some (.int (nI (limN n))), some (.int (nI v))] [] := by
        intro cc
        induction cc with
        | zero =>
          intro v Q g f1 hc Zq sm hp q20 qf go
          obtain rfl : v = limN n := by omega
          refine x_iload C dX6_probe_60 rfl ?_
          refine x_iload C dX6_probe_62 rfl ?_
          refine x_icmp_ge (tgt := 87) C dX6_probe_64 (by decide) (fun _ => ?_) (fun q => absurd (Int32.le_refl _) q)
          refine T87 _ (go _ rfl) _ _ (Zq.part n _ _ ?_)
          rw [part_wild]
          exact (Zq.2.2.1.2.sa (fun q => absurd q (by decide))).part _ (wld_lt n)
        | succ cc ih2 =>
          intro v Q g f1 hc Zq sm hp q20 qf go
          have ll := limN_le n
          have hl := limN_wld (n := n) (v := v) (by omega)
          have hb' : WFb (Q.sa 22 n (nI v)) := Zq.2.2.1.2.sa (fun q => absurd q (by decide))
          have hm' : mby (Q.sa 22 n (nI v)) = mby Q := by funext b; unfold mby; rw [sa_ne (by decide)]
          have cb : WFb (f_part (Q.sa 22 n (nI v)) n (nI v)) := hb'.part v hl.2
          have cs : SM S (f_part (Q.sa 22 n (nI v)) n (nI v)) := sm.tr ⟨fun j => (part_ne (by decide)).trans (sa_ne (by decide)), fun j => (part_ne (by decide)).trans (sa_ne (by decide))⟩
          have cp : ∀ q, q < 12 → prt (mby (f_part (Q.sa 22 n (nI v)) n (nI v))) q = if q = n then v else prt (mby S) q := by
            intro q hq
            rw [part_prt hb' n12 v hl.2 q hq, hm']
            by_cases e : q = n
            · rw [if_pos e, if_pos e]
            · rw [if_neg e, if_neg e]; exact hp q hq e
          have c20 : (f_part (Q.sa 22 n (nI v)) n (nI v)).i 20 = nI f1 := by rw [part_i, MS.sa_i]; exact q20
          have Zc := Zq.part n (nI v) (nI v) cb
          have go2 : ∀ S1, PRo (m + 1) (n + 1) (f_part (Q.sa 22 n (nI v)) n (nI v)) = some S1 → ∀ S', PRk (PRo (m + 1) (n + 1)) n cc (v + 1) S1 = some S' → PRk (PRo (m + 1) (n + 1)) n (limN n) 0 (f_putM S) = some S' := fun S1 e1 S' e2 => go S' (by rw [PRk, e1]; exact e2)
          generalize f_part (Q.sa 22 n (nI v)) n (nI v) = D at cb cs cp c20 Zc go2
          have on := onC Z.2.2.1.2 cb cs n12 cp (hw n (Nat.le_refl n) n12) hl.1
          have st := ge_step on
          have hw' : ∀ q, n + 1 ≤ q → q < 12 → prt (mby D) q = wld q := fun q h1 h2 => by rw [cp q h2, if_neg (by omega)]; exact hw q (by omega) h2
          have hv' : ∀ q, q < n + 1 → q < 12 → prt (mby D) q ≠ wld q := fun q h1 h2 => by
            rw [cp q h2]
            by_cases e : q = n
            · rw [if_pos e, e]; exact hl.1
            · rw [if_neg e]; exact hv q (by omega) h2
          obtain ⟨S1, e1, b1, a1, s1, p1, f2, g1, g2, g3⟩ := PR_ok (m + 1) (n + 1) D f1 (by omega) (by omega) cb Zc.2.2.1.1 (ds.sm cs) c20 (by omega) hw' hv'
          refine x_iload C dX6_probe_60 rfl ?_
          refine x_iload C dX6_probe_62 rfl ?_
          refine x_icmp_ge (tgt := 87) C dX6_probe_64 (by decide) (fun q => absurd q (Int32.not_le.mpr (nI_lt (show v < limN n by omega) (by omega)))) (fun _ => ?_)
          refine x_aload_n C dX6_probe_67 rfl ?_
          refine x_iload_n C dX6_probe_68 rfl ?_
          refine x_iconst (v := 1) C dX6_probe_69 (by decide) ?_
          refine x_iadd C dX6_probe_70 ?_
          rw [nI_1]
          refine x_lload_n C dX6_probe_71 rfl ?_
          refine x_iload_n C dX6_probe_72 rfl ?_
          refine x_iload C dX6_probe_73 rfl ?_
          refine k_callS (kc := 0) (ks := 0) (mc' := 0) (ms' := 0) (st := [.int (nI (n + 1)), .ref (a 0)]) C E.cs hW.1 gw_good (zy_withPart hX mk n12) md_X6_withPart wt_X6_withPart wm_X6_228 dX6_probe_75 rfl (by omega) (by omega) rfl (by simp [Value.category]) (fun r => X.opn (fun g2 hg => ?_))
          obtain ⟨rfl, eg⟩ := hg
          rw [eg]
          refine k_callR (kc := 0) (ks := 0) (mc' := 0) (ms' := 0) (st := []) C Y hW E.cs (ih (n + 1) (wpF mk n v) D g f1 (by omega) Zc (ds.sm cs) c20 (by omega) hw' hv' (ABwp Z.2.2.1.2 cb hab n12 hl.2 cp)) rfl md_X6_probe wi_X6_probe ws_X6_probe wm_X6_148 dX6_probe_78 rfl (by omega) (by omega) Zc.x rfl rfl (by decide) (fun r g3 hg => ?_)
          obtain ⟨rfl, S1', e1', Z3⟩ := hg
          obtain rfl : S1 = S1' := Option.some.inj (e1.symm.trans e1')
          refine o_iincE (v := nI (v + 1)) (L' := [some _, some _, some _, none, some _, some _, some _]) C dX6_probe_81 rfl (nI_1 v) (by rw [hn]; decide) rfl ?_
          refine x_goto (tgt := 60) C dX6_probe_84 (by decide) ?_
          exact ih2 (v + 1) S1 _ f2 (by omega) Z3 (cs.tr s1) (fun q h1 h2 => by rw [p1 q h1, cp q h1, if_neg h2]) g1 (by omega) (go2 S1 e1)
      have T55 : X z 0 0 (EQ g) 55 [some (.ref (a 0)), some (.int (nI n)), some (.long mk), none, some (.int (outV (f_putM S))), none, none] [.int (nI (limN n))] := by
        refine o_istoreE (L' := [some _, some _, some _, none, some _, some _, none]) C dX6_probe_55 (by rw [hn]; decide) rfl ?_
        refine x_iconst (v := 0) C dX6_probe_57 (by decide) ?_
        refine o_istoreE (L' := [some _, some _, some _, none, some _, some _, some _]) C dX6_probe_58 (by rw [hn]; decide) rfl ?_
        have hc : cn (geM S n 0) 12 ≤ cntM S 12 := by
          rw [cntM_cn]
          exact cn_mono 12 (fun k _ q => ((geM_iff S n 0 k).mp q).1)
        exact LP (limN n) 0 (f_putM S) g fn (by omega) Zg (putM_sm S) (fun q _ _ => by rw [putM_mby]) p20 (by omega) (fun _ e => e)
      refine x_iload_n C dX6_probe_41 rfl ?_
      refine x_bipush (v := 8) C dX6_probe_42 (by decide) ?_
      refine x_icmp_ge (tgt := 52) C dX6_probe_44 (by decide) (fun q8 => ?_) (fun q8 => ?_)
      · have e8 : limN n = 255 := if_neg (fun q => absurd (nI_lt q (by decide)) (Int32.not_lt.mpr q8))
        rw [e8] at T55
        exact x_sipush (v := nI 255) C dX6_probe_52 (by decide) T55
      · have e8 : limN n = 10 := if_pos ((nI_ltI (by omega) (by decide)).mp (Int32.not_le.mp q8))
        rw [e8] at T55
        refine x_bipush (v := nI 10) C dX6_probe_47 (by decide) ?_
        exact x_goto (tgt := 55) C dX6_probe_49 (by decide) T55
    · have q7 := o1.mp q1
      have e1 : f_one (f_putM S) = f_find (f_putM S) fn := by unfold f_one; rw [if_pos q7, ec]
      have eP : PRo (m + 1 + 1) n S = some (f_find (f_putM S) fn) := by rw [PRo, if_neg (by rw [q7]; decide), if_pos cOK, e1]
      have f12 : fn < 12 := by
        have : cntM S 12 = 1 := (nI_eq (by omega) (by omega)).mp (e7.symm.trans q7)
        omega
      refine x_aload_n C dX6_probe_16 rfl ?_
      refine x_lload_n C dX6_probe_17 rfl ?_
      refine k_callR (kc := 0) (ks := 0) (mc' := 0) (ms' := 0) (st := []) C Y hW E.cs (zy_reset hX Zg (mk := mk) (fun b hb => (hab b hb).trans (putM_bz rfl (by decide)).symm)) rfl md_X6_resetSelected wi_X6_resetSelected ws_X6_resetSelected wm_X6_221 dX6_probe_18 rfl (by omega) (by omega) Zg.x rfl rfl (by decide) (fun r g2 hg => ?_)
      obtain ⟨rfl, Z2⟩ := hg
      refine x_aload_n C dX6_probe_21 rfl ?_
      have p20' : (f_putM (f_putS (f_putM S) 64)).i 20 = nI fn := (f_putM_i _ (by decide) (by decide) (by decide) (by decide) (by decide)).trans ((f_putS_i _ _ (by decide) (by decide) (by decide) (by decide) (by decide)).trans p20)
      refine k_callR (kc := 0) (ks := 0) (mc' := 0) (ms' := 0) (st := []) C Y hW E.cs (zy_addFound hX Z2 p20' f12) rfl md_X6_addFound wi_X6_addFound ws_X6_addFound wm_X6_225 dX6_probe_22 rfl (by omega) (by omega) Z2.x rfl rfl (by decide) (fun r g3 hg => ?_)
      obtain ⟨rfl, Z3⟩ := hg
      exact x_goto (tgt := 87) C dX6_probe_25 (by decide) (T87 _ eP _ _ Z3)
theorem zy_search (hX : Wx w c) (hS : MH S) (Z : ZI c a h9 V α f κ κd ω ωd S h) : T w gw yX6_search cX6_search 1 (some .int) 20 (40 * 20) 0 0 [.ref (a 0)] (EQ h) (fun r g => r = some (.int ((f_search S).i 20)) ∧ ZQ c a h9 V (f_search S) g) := by
  have hW := hX.1
  refine TA.intro hW rfl (by decide +kernel) (Nat.le_of_ble_eq_true rfl) (fun z C Y E hn h1 hA => ?_)
  rw [show h1 = h from hA]
  clear hA
  have Bx := Z.x
  refine x_aload_n C dX6_search_0 rfl ?_
  refine x_iconst (v := 0) C dX6_search_1 (by decide) ?_
  refine e_put C Y kd_X6 5 (by decide) rfl wf_X6_43 dX6_search_2 Bx (Nat.le_of_ble_eq_true rfl) rfl rfl rfl ?_
  have Z1 : ZI c a h9 V α f κ κd ω ωd (f_sr0 S) (hs h (a 0) (.inr (6, [.ref (a 1), .ref (a 3), .ref (a 7), .ref (a 9), .ref (a 10), .int (nI 0)]))) := by
    have nw := fun q hq => Z.nw (q := q) hq
    obtain ⟨z1, z2, z3, z4, z5, z6, z7, z8⟩ := Z
    have d := z1.dif
    obtain ⟨fn, gf, x1, x2, x3, x4, x5⟩ := z7
    have ra : ∀ i, i ≤ 10 → i ≠ 0 → hs h (a 0) (.inr (6, [.ref (a 1), .ref (a 3), .ref (a 7), .ref (a 9), .ref (a 10), .int (nI 0)])) (a i) = h (a i) := fun i hi n0 => hs_ne (d i 0 hi (by omega) n0)
    have sf : ∀ q j, q ≠ 19 → (f_sr0 S).a q j = S.a q j := fun q j hq => by unfold f_sr0; rw [ff_a _ hq]; rfl
    have sfi : ∀ q, q ≠ 20 → q ≠ 0 → (f_sr0 S).i q = S.i q := fun q hq h0 => by unfold f_sr0; rw [ff_i, MS.si_i, if_neg hq, MS.si_i, if_neg h0]
    have sw : ∀ q j n, (f_ff ((S.si 0 0).si 20 0) n).w q j = S.w q j := fun q j n => by
      induction n with
      | zero => rfl
      | succ n ih => rw [f_ff]; exact ih
    refine ⟨z1.putX (by omega), z2.sm (sr0_sm S), ⟨z3.1.sr0, z3.2.sr0⟩, z4.same (fun q hq => hs_ne (nw q (Or.inl hq) 0 (by omega))) (fun q j hq => sf q j (by omega)), ?_, z6.go (ra 1 (by omega) (by omega)) (ra 2 (by omega) (by omega)) (sfi 2 (by decide) (by decide)) (fun j => sf 1 j (by decide)), ⟨0, gf, hs_self .., sr0_20 S, by omega, by rw [ra 10 (by omega) (by omega)]; exact x4, fun k hk => absurd hk (Nat.not_lt_zero k)⟩, z8.go (ra 7 (by omega) (by omega)) (ra 8 (by omega) (by omega)) (fun q hq => hs_ne (nw q (Or.inr hq) 0 (by omega))) ⟨fun q hq => sfi q (by omega) (by omega), fun q j => sw q j 8, fun q j q1 q2 => sf q j (by omega)⟩⟩
    rw [EU, ra 3 (by omega) (by omega), sfi 8 (by decide) (by decide), sfi 9 (by decide) (by decide)]
    exact z5
  have ds : DS (f_sr0 S) := hS.1.ds.sm (sr0_sm S)
  have cl := cntM_le (f_sr0 S) 12
  have hab : AB (-1) (fun b => (f_sr0 S).a 19 b) := by
    refine AB.of (fun b hb => ?_) (fun t ht => ?_)
    · show (f_sr0 S).a 19 b &&& 255 = (f_sr0 S).a 19 b
      unfold f_sr0
      rw [ff_19, if_pos hb]
      decide
    · rw [bl_m1 t ht]
      show true = bt ((f_sr0 S).a 19 (t / 8)) (t % 8)
      unfold f_sr0
      rw [ff_19, if_pos (show t / 8 < 8 by omega), b_255, decide_eq_true (show t % 8 < 8 by omega)]
  refine x_aload_n C dX6_search_5 rfl ?_
  refine x_iconst (v := 0) C dX6_search_6 (by decide) ?_
  refine x_ldc2 C wk_X6_146 dX6_search_7 ?_
  refine k_callR (kc := 0) (ks := 0) (mc' := 0) (ms' := 0) (st := []) C Y hW E.cs (zy_probe hX 12 0 (-1) (f_sr0 S) _ 0 rfl Z1 ds (sr0_20 S) (by omega) (fun q _ hq => sr0_prt S hq) (fun q hq => absurd hq (Nat.not_lt_zero q)) hab) rfl md_X6_probe wi_X6_probe ws_X6_probe wm_X6_148 dX6_search_10 rfl (by decide) (by decide) (hs_self ..) rfl rfl (by decide) (fun r g hg => ?_)
  obtain ⟨rfl, S', eP, Z2⟩ := hg
  have eS : f_search S = S' := search_eq eP
  rw [← eS] at Z2
  refine x_aload_n C dX6_search_13 rfl ?_
  refine e_get C Y kd_X6 5 (by decide) wf_X6_43 dX6_search_14 Z2.x rfl ?_
  exact x_iret C E dX6_search_17 (fun g e => ⟨rfl, hS.search, α, f, κ, κd, ω, ωd, by rw [show g = _ from e]; exact Z2⟩)
end Search
