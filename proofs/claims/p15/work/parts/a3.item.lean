/-! Decoder: one item. -/
theorem exD_ge (f : Nat → Int32) : ∀ (r : Nat) (la : Int32) (j : Nat), j ≤ exD f r la j
  | 0, _, j => Nat.le_refl j
  | r + 1, la, j => by
    unfold exD
    split
    · exact Nat.le_refl _
    · exact Nat.le_trans (Nat.le_succ j) (exD_ge f r _ _)
theorem exD_128 (f : Nat → Int32) (j : Nat) : j + 1 ≤ exD f 12 128 j := by
  rw [show exD f 12 128 j = exD f 11 (f j) (j + 1) from if_neg (by decide)]
  exact exD_ge f 11 _ _
/-- where the value of a record at i stands -/
def vpos (f : Nat → Int32) (i : Nat) : Nat := exD f 12 128 (exD f 11 (f i) (i + 1))
theorem vpos_ge (f : Nat → Int32) (i : Nat) : i + 2 ≤ vpos f i := Nat.le_trans (Nat.succ_le_succ (exD_ge f 11 (f i) (i + 1))) (exD_128 f _)
/-- how many slots a text of the record at i takes; how far the record goes at least -/
def itx (f : Nat → Int32) (i m : Nat) : Nat := if f i = 15 then m - (i + 1) else min (tsv f (f i &&& 15) (vpos f i)) (m - vpos f i)
def ilo (f : Nat → Int32) (i m : Nat) : Nat := if f i = 15 then m else vpos f i + tsv f (f i &&& 15) (vpos f i)
def DQ (c : Nat → ClassId) (li ra de : Nat) (h0 : PH) (W : Nat → Prop) (b : Nat) (a e : Int32) (h : PH) : Prop := (∃ κ, DK c li ra de h0 W κ h) ∧ ∃ fa pl mo : Int32, h de = some (.inr (1, [.ref li, .ref b, .int a, .int e, .int fa, .int pl, .int mo])) ∧ (mo = 0 ∨ mo = 1)
def RQ (c : Nat → ClassId) (li ra de : Nat) (h0 : PH) (W : Nat → Prop) (b lo m : Nat) (r : Option Value) (g : PH) : Prop := (r = some (.int 1) ∧ ∃ i, lo ≤ i ∧ i ≤ m ∧ DQ c li ra de h0 W b (nI i) (nI m) g) ∨ (r = some (.int 0) ∧ ∃ a, DQ c li ra de h0 W b a (nI m) g)
section Dec
variable {w : Wd} {c : Nat → ClassId} {h h0 : PH} {li ra de p b ba n : Nat} {W : Nat → Prop} {f : Nat → Int32} {co : Int32}
theorem DE.dq {a e : Int32} (D : DE c li ra de h0 W p co b a e h) : DQ c li ra de h0 W b a e h := by
  obtain ⟨⟨κ, D, -⟩, r⟩ := D
  exact ⟨⟨κ, D⟩, r⟩
theorem DQ.set {a e : Int32} (D : DQ c li ra de h0 W b a e h) {fa pl mo : Int32} (a' e' fa' pl' mo' : Int32) (b' : Nat) (hm : mo' = 0 ∨ mo' = 1) : DQ c li ra de h0 W b' a' e' (hs h de (.inr (1, [.ref li, .ref b', .int a', .int e', .int fa', .int pl', .int mo']))) := by
  obtain ⟨⟨κ, D⟩, -⟩ := D
  exact ⟨⟨κ, D.putD _ _ _ _ _ _ hm⟩, fa', pl', mo', hs_self .., hm⟩
theorem DQ.row {a e : Int32} (D : DQ c li ra de h0 W b a e h) {b2 : Nat} (R : RW c h0 b2 ba f n) (o1 : W b2) (o2 : W ba) : RW c h b2 ba f n := by
  obtain ⟨⟨κ, D⟩, -⟩ := D
  exact D.row R o1 o2
theorem RQ.no {a : Int32} {lo m : Nat} (D : DQ c li ra de h0 W b a (nI m) h) : RQ c li ra de h0 W b lo m (some (.int 0)) h := Or.inr ⟨rfl, _, D⟩
theorem RQ.yes {i lo m : Nat} (h1 : lo ≤ i) (h2 : i ≤ m) (D : DQ c li ra de h0 W b (nI i) (nI m) h) : RQ c li ra de h0 W b lo m (some (.int 1)) h := Or.inl ⟨rfl, i, h1, h2, D⟩
theorem d_item0 (hX : Wx w c) (R : RW c h0 b ba f n) (o1 : W b) (o2 : W ba) {i m : Nat} (hi : i < m) (hm : m ≤ 256) (hmn : m ≤ n) (hv : f i = 47 ∨ f i = 31) : T w gw yX1_readItem cX1_readItem 5 (some .boolean) 6 (40 * 6) 0 0 [.ref de] (DQ c li ra de h0 W b (nI i) (nI m)) (RQ c li ra de h0 W b (i + 1) m) := by
  have hW := hX.1
  refine TA.intro hW rfl (by decide +kernel) (Nat.le_of_ble_eq_true rfl) (fun z C Y E hn h D => ?_)
  obtain ⟨-, fa, pl, mo, B, hm1⟩ := id D
  have Rh := D.row R o1 o2
  refine x_aload_n C dX1_readItem_0 rfl ?_
  refine e_get C Y kd_X1 2 (by decide) wf_X1_9 dX1_readItem_1 B rfl ?_
  refine o_istore_nE (L' := [some _, some _, none, none, none]) C dX1_readItem_4 (by rw [hn]; decide) rfl ?_
  refine x_aload_n C dX1_readItem_5 rfl ?_
  refine u_callV (st := []) C Y hW E.cs (d_take hW B Rh) md_X1_take wi_X1_take ws_X1_take wm_X1_85 dX1_readItem_6 rfl (by decide) (by decide) B rfl rfl (by decide) ?_
  have D1 := D.set (fa := fa) (pl := pl) (mo := mo) (nI i + 1) (nI m) fa pl mo b hm1
  rw [nI_1] at D1 ⊢
  rw [rAt_in (by omega) R.2.2.2]
  refine o_istore_nE (L' := [some _, some _, some _, none, none]) C dX1_readItem_9 (by rw [hn]; decide) rfl ?_
  refine x_iload_n C dX1_readItem_10 rfl ?_
  refine x_bipush (v := 47) C dX1_readItem_11 (by decide) ?_
  refine x_icmp_ne (tgt := 18) C dX1_readItem_13 (by decide) (fun q => ?_) (fun q => ?_)
  rotate_left
  · refine x_iconst (v := 1) C dX1_readItem_16 (by decide) ?_
    exact x_zret C E dX1_readItem_17 (by decide) (fun g e => by subst e; exact RQ.yes (Nat.le_refl _) hi D1)
  have hv2 : f i = 31 := hv.resolve_left q
  refine x_iload_n C dX1_readItem_18 rfl ?_
  refine x_bipush (v := 31) C dX1_readItem_19 (by decide) ?_
  refine x_icmp_ne (tgt := 58) C dX1_readItem_21 (by decide) (fun q => absurd hv2 q) (fun _ => ?_)
  refine x_aload_n C dX1_readItem_24 rfl ?_
  refine x_iconst (v := 1) C dX1_readItem_25 (by decide) ?_
  refine e_put C Y kd_X1 6 (by decide) rfl wf_X1_24 dX1_readItem_26 (hs_self ..) (Nat.le_of_ble_eq_true rfl) (by decide) (by decide) (hs_hs ..) ?_
  have D2 := D.set (fa := fa) (pl := pl) (mo := mo) (nI (i + 1)) (nI m) fa pl 1 b (Or.inr rfl)
  refine x_aload_n C dX1_readItem_29 rfl ?_
  refine e_get C Y kd_X1 2 (by decide) wf_X1_9 dX1_readItem_30 (hs_self ..) rfl ?_
  refine x_aload_n C dX1_readItem_33 rfl ?_
  refine e_get C Y kd_X1 3 (by decide) wf_X1_15 dX1_readItem_34 (hs_self ..) rfl ?_
  refine x_icmp_eq (tgt := 52) C dX1_readItem_37 (by decide) (fun q => ?_) (fun q => ?_)
  · refine x_iconst (v := 1) C dX1_readItem_52 (by decide) ?_
    refine x_goto (tgt := 57) C dX1_readItem_53 (by decide) ?_
    exact x_zret C E dX1_readItem_57 (by decide) (fun g e => by subst e; exact RQ.yes (Nat.le_refl _) hi D2)
  · refine x_aload_n C dX1_readItem_40 rfl ?_
    refine x_iconst (v := 4) C dX1_readItem_41 (by decide) ?_
    refine x_aload_n C dX1_readItem_42 rfl ?_
    refine e_get C Y kd_X1 2 (by decide) wf_X1_9 dX1_readItem_43 (hs_self ..) rfl ?_
    refine u_callV (st := []) C Y hW E.cs (d_wrong hW (hs_self ..) 4 _) md_X1_wrong wi_X1_wrong ws_X1_wrong wm_X1_67 dX1_readItem_46 rfl (by decide) (by decide) (hs_self ..) rfl rfl (by decide) ?_
    refine x_if_eq (tgt := 56) C dX1_readItem_49 (by decide) (fun _ => ?_) (fun q => absurd rfl q)
    refine x_iconst (v := 0) C dX1_readItem_56 (by decide) ?_
    exact x_zret C E dX1_readItem_57 (by decide) (fun g e => by subst e; exact RQ.no (D2.set (fa := fa) (pl := pl) (mo := 1) _ _ _ _ _ b (Or.inr rfl)))
theorem d_item (hX : Wx w c) (R : RW c h0 b ba f n) (o1 : W b) (o2 : W ba) (hb : HB f n) {i m : Nat} (hi : i < m) (hm : m ≤ 256) (hmn : m ≤ n) (hv : ¬ f i = 47 ∧ ¬ f i = 31) : T w gw yX1_readItem cX1_readItem 5 (some .boolean) 6 (40 * 6) 3 (21 + itx f i m) [.ref de] (DQ c li ra de h0 W b (nI i) (nI m)) (RQ c li ra de h0 W b (ilo f i m) m) := by
  have hW := hX.1
  refine TA.intro hW rfl (by decide +kernel) (Nat.le_of_ble_eq_true rfl) (fun z C Y E hn h D => ?_)
  obtain ⟨-, fa, pl, mo, B, hm1⟩ := id D
  have Rh := D.row R o1 o2
  refine x_aload_n C dX1_readItem_0 rfl ?_
  refine e_get C Y kd_X1 2 (by decide) wf_X1_9 dX1_readItem_1 B rfl ?_
  refine o_istore_nE (L' := [some _, some _, none, none, none]) C dX1_readItem_4 (by rw [hn]; decide) rfl ?_
  refine x_aload_n C dX1_readItem_5 rfl ?_
  refine u_callV (st := []) C Y hW E.cs (d_take hW B Rh) md_X1_take wi_X1_take ws_X1_take wm_X1_85 dX1_readItem_6 rfl (by decide) (by decide) B rfl rfl (by decide) ?_
  have D1 := D.set (fa := fa) (pl := pl) (mo := mo) (nI i + 1) (nI m) fa pl mo b hm1
  rw [nI_1] at D1 ⊢
  rw [rAt_in (by omega) R.2.2.2]
  obtain ⟨⟨κ1, Dk1⟩, -⟩ := id D1
  have lde : li ≠ de := Dk1.2.2.2.2.1.2.2.2.2.1
  have nL : (∃ n, n ≤ 100 ∧ hs h de (.inr (1, [.ref li, .ref b, .int (nI (i + 1)), .int (nI m), .int fa, .int pl, .int mo])) li = some (.inr (4, [.ref ra, .int (nI n)]))) := Dk1.1
  obtain ⟨nl, nl1, nl2⟩ := nL
  refine o_istore_nE (L' := [some _, some _, some _, none, none]) C dX1_readItem_9 (by rw [hn]; decide) rfl ?_
  refine x_iload_n C dX1_readItem_10 rfl ?_
  refine x_bipush (v := 47) C dX1_readItem_11 (by decide) ?_
  refine x_icmp_ne (tgt := 18) C dX1_readItem_13 (by decide) (fun _ => ?_) (fun q => absurd q hv.1)
  refine x_iload_n C dX1_readItem_18 rfl ?_
  refine x_bipush (v := 31) C dX1_readItem_19 (by decide) ?_
  refine x_icmp_ne (tgt := 58) C dX1_readItem_21 (by decide) (fun _ => ?_) (fun q => absurd q hv.2)
  refine x_aload_n C dX1_readItem_58 rfl ?_
  refine e_get C Y kd_X1 0 (by decide) wf_X1_32 dX1_readItem_59 (hs_self ..) rfl ?_
  refine X.room (kc' := 1 + 2) (ks' := itx f i m + 21) ?_ (by omega) (by omega)
  refine k_callR (kc := 1) (ks := itx f i m) (st := []) C Y hW E.cs (l_draft hX _) ⟨Dk1, hs_self ..⟩ md_X4_draft wi_X4_draft ws_X4_draft wm_X1_88 dX1_readItem_62 rfl (by decide) (by decide) nl2 rfl rfl (by decide) (fun r g hg => ?_)
  obtain ⟨κ, p, rfl, hp, Dk, hde⟩ := hg
  obtain ⟨e0, e1, va, sg, co, fu, ta, un, ln, v, vn, lt, e2, v1, v2, v3⟩ := Dk.rd hp
  subst e2
  refine o_astore_nE (L' := [some _, some _, some _, some _, none]) C dX1_readItem_65 (by rw [hn]; decide) rfl ?_
  refine x_aload_n C dX1_readItem_66 rfl ?_
  refine x_iload_n C dX1_readItem_67 rfl ?_
  refine u_callV (st := []) C Y hW E.cs (q_begin hW e1 (f i)) md_X3_begin wi_X3_begin ws_X3_begin wm_X1_92 dX1_readItem_68 rfl (by decide) (by decide) e1 rfl rfl (by decide) ?_
  have DEp : DE c li ra de h0 W p (f i &&& 15) b (nI (i + 1)) (nI m) (hs g p (.inr (3, rdL 0 (f i &&& 15) ((f i >>> ((4 : Int32) &&& 31)) &&& 3) ((f i >>> ((6 : Int32) &&& 31)) &&& 1).toInt64 0 0 v 0 lt 0))) := ⟨⟨κ, Dk.putRd hp ⟨_, _, _, _, _, _, _, v, 0, lt, rfl, v1, by decide, v3⟩, hp, _, _, hs_self ..⟩, fa, pl, mo, by rw [hs_ne (Dk.pd (by omega))]; exact hde, hm1⟩
  generalize hs g p (.inr (3, rdL 0 (f i &&& 15) ((f i >>> ((4 : Int32) &&& 31)) &&& 3) ((f i >>> ((6 : Int32) &&& 31)) &&& 1).toInt64 0 0 v 0 lt 0)) = g1 at DEp
  clear e1 hde Dk hp κ v1 v2 v3
  -- behind the steps
  have T179 : ∀ (kc ks : Nat) (g : PH) (aa : Int32) (l4 : Option Value), DQ c li ra de h0 W b aa (nI m) g → X z kc ks (EQ g) 179 [some (.ref de), some (.int (nI i)), some (.int (f i)), some (.ref p), l4] [] := fun kc ks g aa l4 D => by
    refine x_iconst (v := 0) C dX1_readItem_179 (by decide) ?_
    exact x_zret C E dX1_readItem_180 (by decide) (fun q e => by subst e; exact RQ.no D)
  have T150 : ∀ (kc ks : Nat) (g : PH) (x : Int32), ((x = 1 ∧ ∃ j, ilo f i m ≤ j ∧ j ≤ m ∧ DQ c li ra de h0 W b (nI j) (nI m) g) ∨ (x = 0 ∧ ∃ a, DQ c li ra de h0 W b a (nI m) g)) → X z kc ks (EQ g) 150 [some (.ref de), some (.int (nI i)), some (.int (f i)), some (.ref p), some (.int x)] [] := fun kc ks g x hx => by
    refine x_iload C dX1_readItem_150 rfl ?_
    rcases hx with ⟨rfl, j, j1, j2, Dj⟩ | ⟨rfl, aa, Da⟩
    · refine x_if_eq (tgt := 179) C dX1_readItem_152 (by decide) (fun q => absurd q (by decide)) (fun _ => ?_)
      obtain ⟨⟨κ, Dk⟩, fa, pl, mo, B, hm1⟩ := id Dj
      obtain ⟨nn, nn1, nn2⟩ := Dk.1
      refine x_aload_n C dX1_readItem_155 rfl ?_
      refine e_get C Y kd_X1 0 (by decide) wf_X1_32 dX1_readItem_156 B rfl ?_
      refine k_callR (kc := kc) (ks := ks) (mc' := 0) (ms' := 0) (st := []) C Y hW E.cs (l_takes hW nn1 nn2) rfl md_X4_takesDraft wi_X4_takesDraft ws_X4_takesDraft wm_X1_114 dX1_readItem_159 rfl (by decide) (by decide) nn2 rfl rfl (by decide) (fun r g2 hg => ?_)
      obtain ⟨hr, mm, mm1, rfl⟩ := hg
      have Dl : DQ c li ra de h0 W b (nI j) (nI m) (hs g li (.inr (4, [.ref ra, .int (nI mm)]))) := ⟨⟨κ, Dk.putL mm1⟩, fa, pl, mo, by rw [hs_ne (Ne.symm lde)]; exact B, hm1⟩
      have Bl : hs g li (.inr (4, [.ref ra, .int (nI mm)])) de = some (.inr (1, [.ref li, .ref b, .int (nI j), .int (nI m), .int fa, .int pl, .int mo])) := by rw [hs_ne (Ne.symm lde)]; exact B
      rcases hr with rfl | rfl
      · refine x_if_ne (tgt := 175) C dX1_readItem_162 (by decide) (fun q => absurd rfl q) (fun _ => ?_)
        refine x_aload_n C dX1_readItem_165 rfl ?_
        refine x_bipush (v := 10) C dX1_readItem_166 (by decide) ?_
        refine x_iload_n C dX1_readItem_168 rfl ?_
        refine u_callV (st := []) C Y hW E.cs (d_wrong hW Bl 10 _) md_X1_wrong wi_X1_wrong ws_X1_wrong wm_X1_67 dX1_readItem_169 rfl (by decide) (by decide) Bl rfl rfl (by decide) ?_
        refine x_if_eq (tgt := 179) C dX1_readItem_172 (by decide) (fun _ => ?_) (fun q => absurd rfl q)
        exact T179 _ _ _ _ _ (Dl.set (fa := fa) (pl := pl) (mo := mo) (nI j) _ _ _ _ b hm1)
      · refine x_if_ne (tgt := 175) C dX1_readItem_162 (by decide) (fun _ => ?_) (fun q => absurd q (by decide))
        refine x_iconst (v := 1) C dX1_readItem_175 (by decide) ?_
        refine x_goto (tgt := 180) C dX1_readItem_176 (by decide) ?_
        exact x_zret C E dX1_readItem_180 (by decide) (fun q e => by subst e; exact RQ.yes j1 j2 Dl)
    · refine x_if_eq (tgt := 179) C dX1_readItem_152 (by decide) (fun _ => ?_) (fun q => absurd rfl q)
      exact T179 _ _ _ aa _ Da
  obtain ⟨-, fa, pl, mo, B, hm1⟩ := id DEp
  refine x_iload_n C dX1_readItem_71 rfl ?_
  refine x_bipush (v := 15) C dX1_readItem_72 (by decide) ?_
  refine x_icmp_ne (tgt := 96) C dX1_readItem_74 (by decide) (fun q15 => ?_) (fun q15 => ?_)
  rotate_left
  · have ei : itx f i m = m - (i + 1) := if_pos q15
    have el : ilo f i m = m := if_pos q15
    refine x_aload_n C dX1_readItem_77 rfl ?_
    refine x_aload_n C dX1_readItem_78 rfl ?_
    refine x_aload_n C dX1_readItem_79 rfl ?_
    refine e_get C Y kd_X1 3 (by decide) wf_X1_15 dX1_readItem_80 B rfl ?_
    refine x_aload_n C dX1_readItem_83 rfl ?_
    refine e_get C Y kd_X1 2 (by decide) wf_X1_9 dX1_readItem_84 B rfl ?_
    refine x_isub C dX1_readItem_87 ?_
    rw [nI_sub' (show i + 1 ≤ m by omega)]
    refine X.room (kc' := 0 + 1) (ks' := 0 + min (m - (i + 1)) (m - (i + 1))) ?_ (by omega) (by omega)
    refine k_callR (kc := 0) (ks := 0) (st := []) C Y hW E.cs (d_text hX R o1 o2 (s := m - (i + 1)) (show i + 1 ≤ m by omega) hm (by omega)) DEp md_X1_readText wi_X1_readText ws_X1_readText wm_X1_97 dX1_readItem_88 rfl (by decide) (by decide) B rfl rfl (by decide) (fun r g hg => ?_)
    rcases hg with ⟨rfl, j, j1, j2, Dg⟩ | ⟨rfl, aa, Dg⟩
    · refine o_istoreE (L' := [some _, some _, some _, some _, some _]) C dX1_readItem_91 (by rw [hn]; decide) rfl ?_
      refine x_goto (tgt := 150) C dX1_readItem_93 (by decide) ?_
      exact T150 _ _ _ _ (Or.inl ⟨rfl, j, by omega, j2, Dg.dq⟩)
    · refine o_istoreE (L' := [some _, some _, some _, some _, some _]) C dX1_readItem_91 (by rw [hn]; decide) rfl ?_
      refine x_goto (tgt := 150) C dX1_readItem_93 (by decide) ?_
      exact T150 _ _ _ _ (Or.inr ⟨rfl, aa, Dg.dq⟩)
  have ei : itx f i m = min (tsv f (f i &&& 15) (vpos f i)) (m - vpos f i) := if_neg q15
  have el : ilo f i m = vpos f i + tsv f (f i &&& 15) (vpos f i) := if_neg q15
  obtain ⟨κ, Dk, hp, va, sg, fu, ta, un, ln, v, vn, lt, Bp, v1, v2, v3⟩ := DEp.1.get
  refine x_aload_n C dX1_readItem_96 rfl ?_
  refine u_callV (st := []) C Y hW E.cs (q_codeOf hW Bp) md_X3_codeOf wi_X3_codeOf ws_X3_codeOf wm_X1_101 dX1_readItem_97 rfl (by decide) (by decide) Bp rfl rfl (by decide) ?_
  refine x_bipush (v := 15) C dX1_readItem_100 (by decide) ?_
  refine x_icmp_ne (tgt := 117) C dX1_readItem_102 (by decide) (fun _ => ?_) (fun _ => ?_)
  rotate_left
  · refine x_aload_n C dX1_readItem_105 rfl ?_
    refine x_bipush (v := 9) C dX1_readItem_106 (by decide) ?_
    refine x_iload_n C dX1_readItem_108 rfl ?_
    refine k_wrong (st := []) C Y hW E.cs (by decide) DEp dX1_readItem_109 (by decide) (fun g Dg => ?_)
    refine o_istoreE (L' := [some _, some _, some _, some _, some _]) C dX1_readItem_112 (by rw [hn]; decide) rfl ?_
    refine x_goto (tgt := 150) C dX1_readItem_114 (by decide) ?_
    exact T150 _ _ _ _ (Or.inr ⟨rfl, _, Dg.dq⟩)
  have T147 : ∀ (kc ks : Nat) (g : PH) (aa : Int32), DE c li ra de h0 W p (f i &&& 15) b aa (nI m) g → X z kc ks (EQ g) 147 [some (.ref de), some (.int (nI i)), some (.int (f i)), some (.ref p), none] [] := fun kc ks g aa D => by
    refine x_iconst (v := 0) C dX1_readItem_147 (by decide) ?_
    refine o_istoreE (L' := [some _, some _, some _, some _, some _]) C dX1_readItem_148 (by rw [hn]; decide) rfl ?_
    exact T150 _ _ _ _ (Or.inr ⟨rfl, _, D.dq⟩)
  refine x_aload_n C dX1_readItem_117 rfl ?_
  refine x_aload_n C dX1_readItem_118 rfl ?_
  refine x_iload_n C dX1_readItem_119 rfl ?_
  refine k_callR (kc := 1) (ks := itx f i m) (mc' := 0) (ms' := 0) (st := []) C Y hW E.cs (d_difes hW R o1 o2 (f i) (show i + 1 ≤ m by omega) hm hmn) DEp md_X1_readDifes wi_X1_readDifes ws_X1_readDifes wm_X1_104 dX1_readItem_120 rfl (by decide) (by decide) B rfl rfl (by decide) (fun r g hg => ?_)
  rcases hg with ⟨rfl, j2, Dg⟩ | ⟨rfl, aa, Dg⟩
  rotate_left
  · refine x_if_eq (tgt := 147) C dX1_readItem_123 (by decide) (fun _ => ?_) (fun q => absurd rfl q)
    exact T147 _ _ _ _ Dg
  refine x_if_eq (tgt := 147) C dX1_readItem_123 (by decide) (fun q => absurd q (by decide)) (fun _ => ?_)
  obtain ⟨-, fa2, pl2, mo2, B2, hm2⟩ := id Dg
  refine x_aload_n C dX1_readItem_126 rfl ?_
  refine x_aload_n C dX1_readItem_127 rfl ?_
  refine k_callR (kc := 1) (ks := itx f i m) (mc' := 0) (ms' := 0) (st := []) C Y hW E.cs (d_vifs hW R o1 o2 j2 hm hmn) Dg md_X1_readVifs wi_X1_readVifs ws_X1_readVifs wm_X1_107 dX1_readItem_128 rfl (by decide) (by decide) B2 rfl rfl (by decide) (fun r g hg => ?_)
  rcases hg with ⟨rfl, j3, Dg⟩ | ⟨rfl, aa, Dg⟩
  rotate_left
  · refine x_if_eq (tgt := 147) C dX1_readItem_131 (by decide) (fun _ => ?_) (fun q => absurd rfl q)
    exact T147 _ _ _ _ Dg
  refine x_if_eq (tgt := 147) C dX1_readItem_131 (by decide) (fun q => absurd q (by decide)) (fun _ => ?_)
  obtain ⟨-, fa3, pl3, mo3, B3, hm3⟩ := id Dg
  refine x_aload_n C dX1_readItem_134 rfl ?_
  refine x_aload_n C dX1_readItem_135 rfl ?_
  refine x_iload_n C dX1_readItem_136 rfl ?_
  refine X.room (kc' := 0 + 1) (ks' := 0 + min (tsv f (f i &&& 15) (vpos f i)) (m - vpos f i)) ?_ (by omega) (by omega)
  refine k_callR (kc := 0) (ks := 0) (st := []) C Y hW E.cs (d_value hX R o1 o2 hb (i := vpos f i) j3 hm hmn (nI i)) Dg md_X1_readValue wi_X1_readValue ws_X1_readValue wm_X1_111 dX1_readItem_137 rfl (by decide) (by decide) B3 rfl rfl (by decide) (fun r g hg => ?_)
  rcases hg with ⟨rfl, j, j4, j5, Dg⟩ | ⟨rfl, aa, Dg⟩
  · refine x_if_eq (tgt := 147) C dX1_readItem_140 (by decide) (fun q => absurd q (by decide)) (fun _ => ?_)
    refine x_iconst (v := 1) C dX1_readItem_143 (by decide) ?_
    refine x_goto (tgt := 148) C dX1_readItem_144 (by decide) ?_
    refine o_istoreE (L' := [some _, some _, some _, some _, some _]) C dX1_readItem_148 (by rw [hn]; decide) rfl ?_
    exact T150 _ _ _ _ (Or.inl ⟨rfl, j, by omega, j5, Dg.dq⟩)
  · refine x_if_eq (tgt := 147) C dX1_readItem_140 (by decide) (fun _ => ?_) (fun q => absurd rfl q)
    exact T147 _ _ _ _ Dg
end Dec
