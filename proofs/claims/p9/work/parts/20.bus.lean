section
/-! What a Bus owns: its meters, their pages, the answer; all else stays. -/
/-- a Meter's cell: its address is told by α -/
def MEc (κ : Nat → Nat) (α : Nat → Int64) (m : Nat) (e : va_E) : Prop := ∃ (pr se pt bt ac : Int32) (pg sz : Nat), e = mF (α m) pr se pg sz pt bt ac ∧ κ pg = 2 ∧ κ sz = 4 ∧ (se = 0 ∨ se = 1)
/-- kinds: 1 a Meter, 2 its row of pages, 3 a page, 4 the sizes -/
def OKm (c : Nat → ClassId) (κ : Nat → Nat) (α : Nat → Int64) (q k : Nat) (o : Option va_E) : Prop := match k with
  | 0 => True
  | 1 => ∃ e, o = some e ∧ MEc κ α q e
  | 2 => ∃ g : Nat → Option Nat, o = some (.inl (c 5, 3, .inr (.inr (.inr (.inr g))))) ∧ ∀ i, i < 3 → ∃ t, g i = some t ∧ κ t = 3
  | 3 => ∃ f : Nat → Int32, o = some (.inl (c 0, 60, .inl f))
  | _ => ∃ f : Nat → Int32, o = some (.inl (c 0, 3, .inl f))
/-- the Bus u, its meters in ma, its answer an (bytes aa) of n bytes -/
def BN (c : Nat → ClassId) (u ma an aa : Nat) (h0 : PH) (W : Nat → Prop) (α : Nat → Int64) (f : Nat → Option Nat) (κ : Nat → Nat) (n : Nat) (h : PH) : Prop :=
  (∃ fr co : Int32, h u = some (.inr (0, [.ref ma, .ref an, .int fr, .int co]))) ∧ h ma = some (zM c f) ∧ (∀ k m, f k = some m → κ m = 1) ∧ (∃ g, RW c h an aa g n ∧ HB g n) ∧
  (∀ q, OKm c κ α q (κ q) (h q)) ∧ (κ u = 0 ∧ κ ma = 0 ∧ κ an = 0 ∧ κ aa = 0 ∧ u ≠ ma ∧ u ≠ an ∧ u ≠ aa ∧ ma ≠ an ∧ ma ≠ aa) ∧ (∀ q, W q → κ q = 0 ∧ q ≠ u ∧ q ≠ ma ∧ q ≠ an ∧ q ≠ aa ∧ h0 q ≠ none ∧ h q = h0 q)
def BX (c : Nat → ClassId) (u ma an aa : Nat) (h0 : PH) (W : Nat → Prop) (α : Nat → Int64) (f : Nat → Option Nat) (κ : Nat → Nat) (h : PH) : Prop := ∃ n, n ≤ 90 ∧ BN c u ma an aa h0 W α f κ n h
theorem and255 (b : Int32) : ∃ v, v < 256 ∧ b &&& 255 = nI v := by
  refine ⟨(b &&& 255).toBitVec.toNat, ?_, Int32.toBitVec_inj.mp (by show _ = BitVec.ofNat 32 _; simp)⟩
  rw [Int32.toBitVec_and, BitVec.toNat_and]
  exact Nat.lt_of_le_of_lt Nat.and_le_right (by decide)
theorem HB.add {g : Nat → Int32} {n : Nat} (hb : HB g n) (hn : n < 300) (x : Int32) : HB (rAdd g n x) (n + 1) := by
  intro j hj
  unfold rAdd
  rw [if_pos hn]
  by_cases e : j = n
  · subst e
    obtain ⟨v, v1, v2⟩ := and255 x
    exact ⟨v, v1, by rw [show upd g j (x &&& 255) j = x &&& 255 from by simp [upd]]; exact v2⟩
  · rw [show upd g n (x &&& 255) j = g j from by simp [upd, e]]
    exact hb j (by omega)
section BN
variable {c : Nat → ClassId} {u ma an aa n : Nat} {h0 h : PH} {W : Nat → Prop} {α : Nat → Int64} {f : Nat → Option Nat} {κ : Nat → Nat}
theorem BN.put (D : BN c u ma an aa h0 W α f κ n h) {q : Nat} {e : va_E} (hk : κ q ≠ 0) (ok : OKm c κ α q (κ q) (some e)) : BN c u ma an aa h0 W α f κ n (hs h q e) := by
  obtain ⟨D1, D2, D3, ⟨g, ⟨r1, r2, r3, r4⟩, g2⟩, D5, ⟨l1, l2, l3, l4, l5⟩, D7⟩ := D
  have n1 : u ≠ q := fun e1 => hk (by rw [← e1]; exact l1)
  have n2 : ma ≠ q := fun e1 => hk (by rw [← e1]; exact l2)
  have n3 : an ≠ q := fun e1 => hk (by rw [← e1]; exact l3)
  have n4 : aa ≠ q := fun e1 => hk (by rw [← e1]; exact l4)
  refine ⟨by rw [hs_ne n1]; exact D1, by rw [hs_ne n2]; exact D2, D3, ⟨g, ⟨r1, by rw [hs_ne n3]; exact r2, by rw [hs_ne n4]; exact r3, r4⟩, g2⟩, fun x => ?_, ⟨l1, l2, l3, l4, l5⟩, fun x hx => ?_⟩
  · by_cases e1 : x = q
    · subst e1; rw [hs_self]; exact ok
    · rw [hs_ne e1]; exact D5 x
  · obtain ⟨x1, x2, x3, x4, x5, x6, x7⟩ := D7 x hx
    exact ⟨x1, x2, x3, x4, x5, x6, by rw [hs_ne (fun e1 => hk (by rw [← e1]; exact x1))]; exact x7⟩
theorem BN.putU (D : BN c u ma an aa h0 W α f κ n h) (fr co : Int32) : BN c u ma an aa h0 W α f κ n (hs h u (.inr (0, [.ref ma, .ref an, .int fr, .int co]))) := by
  obtain ⟨D1, D2, D3, ⟨g, ⟨r1, r2, r3, r4⟩, g2⟩, D5, ⟨l1, l2, l3, l4, l5, l6, l7, l8⟩, D7⟩ := D
  refine ⟨⟨fr, co, hs_self ..⟩, by rw [hs_ne (Ne.symm l5)]; exact D2, D3, ⟨g, ⟨r1, by rw [hs_ne (Ne.symm l6)]; exact r2, by rw [hs_ne (Ne.symm l7)]; exact r3, r4⟩, g2⟩, fun x => ?_, ⟨l1, l2, l3, l4, l5, l6, l7, l8⟩, fun x hx => ?_⟩
  · by_cases e1 : x = u
    · subst e1; rw [l1]; trivial
    · rw [hs_ne e1]; exact D5 x
  · obtain ⟨x1, x2, x3, x4, x5, x6, x7⟩ := D7 x hx
    exact ⟨x1, x2, x3, x4, x5, x6, by rw [hs_ne x2]; exact x7⟩
/-- the answer written anew -/
theorem BN.putA (D : BN c u ma an aa h0 W α f κ n h) {g : Nat → Int32} {n' : Nat} (hn : n' ≤ 300) (hb : HB g n') : BN c u ma an aa h0 W α f κ n' (rowh c h an aa g n') := by
  obtain ⟨D1, D2, D3, ⟨g0, ⟨r1, r2, r3, r4⟩, g2⟩, D5, ⟨l1, l2, l3, l4, l5, l6, l7, l8, l9⟩, D7⟩ := D
  refine ⟨by rw [rw_ne l6 l7]; exact D1, by rw [rw_ne l8 l9]; exact D2, D3, ⟨g, RW.of r1 hn, hb⟩, fun x => ?_, ⟨l1, l2, l3, l4, l5, l6, l7, l8, l9⟩, fun x hx => ?_⟩
  · by_cases e1 : x = an
    · subst e1; rw [l3]; trivial
    · by_cases e2 : x = aa
      · subst e2; rw [l4]; trivial
      · rw [rw_ne e1 e2]; exact D5 x
  · obtain ⟨x1, x2, x3, x4, x5, x6, x7⟩ := D7 x hx
    exact ⟨x1, x2, x3, x4, x5, x6, by rw [rw_ne x4 x5]; exact x7⟩
theorem BN.me (D : BN c u ma an aa h0 W α f κ n h) {m : Nat} (hm : κ m = 1) : ∃ (pr se pt bt ac : Int32) (pg sz : Nat), h m = some (mF (α m) pr se pg sz pt bt ac) ∧ κ pg = 2 ∧ κ sz = 4 ∧ (se = 0 ∨ se = 1) := by
  have := D.2.2.2.2.1 m
  rw [hm] at this
  obtain ⟨e, e1, pr, se, pt, bt, ac, pg, sz, e2, e3⟩ := this
  exact ⟨pr, se, pt, bt, ac, pg, sz, by rw [e1, e2], e3⟩
theorem BN.putM (D : BN c u ma an aa h0 W α f κ n h) {m : Nat} (hm : κ m = 1) (pr se pt bt ac : Int32) {pg sz : Nat} (h1 : κ pg = 2) (h2 : κ sz = 4) (h3 : se = 0 ∨ se = 1) : BN c u ma an aa h0 W α f κ n (hs h m (mF (α m) pr se pg sz pt bt ac)) := D.put (by omega) (by rw [hm]; exact ⟨_, rfl, pr, se, pt, bt, ac, pg, sz, rfl, h1, h2, h3⟩)
theorem BN.sz (D : BN c u ma an aa h0 W α f κ n h) {q : Nat} (hq : κ q = 4) : ∃ s : Nat → Int32, h q = some (.inl (c 0, 3, .inl s)) := by
  have := D.2.2.2.2.1 q
  rw [hq] at this
  exact this
theorem BN.pg (D : BN c u ma an aa h0 W α f κ n h) {q : Nat} (hq : κ q = 2) : ∃ g : Nat → Option Nat, h q = some (.inl (c 5, 3, .inr (.inr (.inr (.inr g))))) ∧ ∀ i, i < 3 → ∃ t, g i = some t ∧ κ t = 3 := by
  have := D.2.2.2.2.1 q
  rw [hq] at this
  exact this
theorem BN.pp (D : BN c u ma an aa h0 W α f κ n h) {q : Nat} (hq : κ q = 3) : ∃ s : Nat → Int32, h q = some (.inl (c 0, 60, .inl s)) := by
  have := D.2.2.2.2.1 q
  rw [hq] at this
  exact this
theorem BN.apart (D : BN c u ma an aa h0 W α f κ n h) {q : Nat} (hk : κ q ≠ 0) : an ≠ q ∧ aa ≠ q ∧ u ≠ q ∧ ma ≠ q := by
  obtain ⟨-, -, -, -, -, ⟨l1, l2, l3, l4, -⟩, -⟩ := D
  exact ⟨fun e => hk (by rw [← e]; exact l3), fun e => hk (by rw [← e]; exact l4), fun e => hk (by rw [← e]; exact l1), fun e => hk (by rw [← e]; exact l2)⟩
theorem BN.out (D : BN c u ma an aa h0 W α f κ n h) {b ba k : Nat} {g : Nat → Int32} (R : RW c h0 b ba g k) (o1 : W b) (o2 : W ba) : RW c h b ba g k := by
  obtain ⟨r1, r2, r3, r4⟩ := R
  exact ⟨r1, by rw [(D.2.2.2.2.2.2 b o1).2.2.2.2.2.2]; exact r2, by rw [(D.2.2.2.2.2.2 ba o2).2.2.2.2.2.2]; exact r3, r4⟩
end BN
theorem adF_n (a : Int64) (g : Nat → Int32) (n : Nat) (hn : n ≤ 200) (hb : HB g n) : ∀ k, k ≤ 8 → (adF a g n k).2 = n + k ∧ HB (adF a g n k).1 (n + k)
  | 0, _ => ⟨rfl, hb⟩
  | k + 1, hk => by
    obtain ⟨e1, e2⟩ := adF_n a g n hn hb k (by omega)
    constructor
    · show rNum (adF a g n k).2 = n + (k + 1)
      rw [e1]
      exact if_pos (by omega)
    · show HB (rAdd (adF a g n k).1 (adF a g n k).2 _) (n + (k + 1))
      rw [e1]
      exact e2.add (by omega) _
end
section
/-! Meter: it hears and answers; its Bus owns what it owned. -/
section Met
variable {w : Wd} {c : Nat → ClassId} {u ma an aa n m : Nat} {h0 h : PH} {W : Nat → Prop} {α : Nat → Int64} {f : Nat → Option Nat} {κ : Nat → Nat}
section Rows
variable {z : Fx} {cc : ByteArray} {kc ks pc : Nat} {L : List (Option Value)} {st : List Value} {lvl : Nat}
/-- answer.add, and what comes behind it -/
theorem k_add (C : Cx z RX2 cc gw) (Y : Cty z c) (hW : Wc w c) (E : Cs z w lvl (40 * lvl)) (hl : 0 < lvl) (D : BN c u ma an aa h0 W α f κ n h) (hn : n < 300) (x : Int32) (d : decode cc pc = .ok (.invokevirtual 80, 3)) (hcat : (st.map fun v => v.category).sum ≤ 8)
    (k : ∀ g, BN c u ma an aa h0 W α f κ (n + 1) g → X z kc ks (EQ g) (pc + 3) L st) : X z kc ks (EQ h) pc L (.int x :: .ref an :: st) := by
  obtain ⟨g, R, hb⟩ := D.2.2.2.1
  have ra := r_add hW R x
  rw [show rNum n = n + 1 from if_pos hn] at ra
  refine u_callV (st := st) C Y hW E ra md_X5_add wi_X5_add ws_X5_add wm_X2_80 d rfl hl (by decide) R.2.1 rfl rfl hcat ?_
  exact k _ (D.putA (by omega) (hb.add hn x))
end Rows
theorem t_write (hX : Wx w c) (hm : κ m = 1) : T w gw yX2_writeAnswer cX2_writeAnswer 6 none 3 (40 * 3) 0 0 [.ref m, .ref an] (BX c u ma an aa h0 W α f κ) (fun r g => r = none ∧ BX c u ma an aa h0 W α f κ g) := by
  have hW := hX.1
  refine TA.intro hW rfl (by decide +kernel) (Nat.le_of_ble_eq_true rfl) (fun z C Y E hn h D => ?_)
  obtain ⟨n, n90, D⟩ := D
  obtain ⟨t5, ht5⟩ : ∃ t : Nat, z.tys[t]? = some (c 5, .array .int) := by rw [E.2.2.2.1]; exact hX.2.2.2.2.2
  obtain ⟨pr, se, pt, bt, ac, pg, sz, B, k1, k2, k3⟩ := D.me hm
  obtain ⟨s, Bs⟩ := D.sz k2
  -- the page: 0 .. 2
  have T23 : ∀ j : Nat, j < 3 → X z 0 0 (EQ h) 23 [some (.ref m), some (.ref an), none, none, none, none] [.int (nI j)] := fun j hj => by
    refine o_istore_nE (L' := [some _, some _, some _, none, none, none]) C dX2_writeAnswer_23 (by rw [hn]; decide) rfl ?_
    refine x_iload_n C dX2_writeAnswer_24 rfl ?_
    refine x_iconst (v := 1) C dX2_writeAnswer_25 (by decide) ?_
    refine x_iadd C dX2_writeAnswer_26 ?_
    refine x_aload_n C dX2_writeAnswer_27 rfl ?_
    refine u_callV (st := [_]) C Y hW E.cs (t_pageNumber hW B Bs) md_X2_pageNumber wi_X2_pageNumber ws_X2_pageNumber wm_X2_57 dX2_writeAnswer_28 rfl (by decide) (by decide) B rfl rfl (by simp [Value.category]) ?_
    have T39 : ∀ x3 : Int32, X z 0 0 (EQ h) 39 [some (.ref m), some (.ref an), some (.int (nI j)), none, none, none] [.int x3] := fun x3 => by
      refine o_istore_nE (L' := [some _, some _, some _, some _, none, none]) C dX2_writeAnswer_39 (by rw [hn]; decide) rfl ?_
      refine x_bipush (v := 15) C dX2_writeAnswer_40 (by decide) ?_
      refine x_aload_n C dX2_writeAnswer_42 rfl ?_
      refine e_get C Y kd_X2 4 (by decide) wf_X2_20 dX2_writeAnswer_43 B rfl ?_
      refine x_iload_n C dX2_writeAnswer_46 rfl ?_
      refine e_ild C Y dX2_writeAnswer_47 Bs (vp_in_nI hj (by decide)) ?_
      refine x_iadd C dX2_writeAnswer_48 ?_
      refine x_iload_n C dX2_writeAnswer_49 rfl ?_
      have T58 : ∀ x y : Int32, X z 0 0 (EQ h) 58 [some (.ref m), some (.ref an), some (.int (nI j)), some (.int x3), none, none] [.int x, .int y] := fun x y => by
        refine x_iadd C dX2_writeAnswer_58 ?_
        refine o_istoreE (L' := [some _, some _, some _, some _, some _, none]) C dX2_writeAnswer_59 (by rw [hn]; decide) rfl ?_
        obtain ⟨g0, R0, hb0⟩ := D.2.2.2.1
        have rc := r_cutTo hW R0 0
        have e0 : rCut n 0 = 0 := by
          unfold rCut
          split
          · rfl
          · rename_i q
            exact Decidable.byContradiction fun q2 => q ⟨Int32.le_refl _, nI_lt (a := 0) (show 0 < n by omega) (by omega)⟩
        rw [e0] at rc
        refine x_aload_n C dX2_writeAnswer_61 rfl ?_
        refine x_iconst (v := 0) C dX2_writeAnswer_62 (by decide) ?_
        refine u_callV (st := []) C Y hW E.cs rc md_X5_cutTo wi_X5_cutTo ws_X5_cutTo wm_X2_76 dX2_writeAnswer_63 rfl (by decide) (by decide) R0.2.1 rfl rfl (by decide) ?_
        have D0 := D.putA (g := g0) (n' := 0) (by decide) (fun j hj => absurd hj (Nat.not_lt_zero j))
        generalize rowh c h an aa g0 0 = h1 at D0 ⊢
        -- seven bytes
        refine x_aload_n C dX2_writeAnswer_66 rfl ?_
        refine x_bipush (v := 104) C dX2_writeAnswer_67 (by decide) ?_
        refine k_add (st := []) C Y hW E.cs (by decide) D0 (by decide) _ dX2_writeAnswer_69 (by decide) (fun h1 D1 => ?_)
        refine x_aload_n C dX2_writeAnswer_72 rfl ?_
        refine x_iload C dX2_writeAnswer_73 rfl ?_
        refine k_add (st := []) C Y hW E.cs (by decide) D1 (by decide) _ dX2_writeAnswer_75 (by decide) (fun h1 D2 => ?_)
        refine x_aload_n C dX2_writeAnswer_78 rfl ?_
        refine x_iload C dX2_writeAnswer_79 rfl ?_
        refine k_add (st := []) C Y hW E.cs (by decide) D2 (by decide) _ dX2_writeAnswer_81 (by decide) (fun h1 D3 => ?_)
        refine x_aload_n C dX2_writeAnswer_84 rfl ?_
        refine x_bipush (v := 104) C dX2_writeAnswer_85 (by decide) ?_
        refine k_add (st := []) C Y hW E.cs (by decide) D3 (by decide) _ dX2_writeAnswer_87 (by decide) (fun h1 D4 => ?_)
        refine x_aload_n C dX2_writeAnswer_90 rfl ?_
        refine x_bipush (v := 8) C dX2_writeAnswer_91 (by decide) ?_
        refine k_add (st := []) C Y hW E.cs (by decide) D4 (by decide) _ dX2_writeAnswer_93 (by decide) (fun h1 D5 => ?_)
        obtain ⟨pr5, se5, pt5, bt5, ac5, pg5, sz5, B5, k15, k25, k35⟩ := D5.me hm
        refine x_aload_n C dX2_writeAnswer_96 rfl ?_
        refine x_aload_n C dX2_writeAnswer_97 rfl ?_
        refine e_get C Y kd_X2 1 (by decide) wf_X2_34 dX2_writeAnswer_98 B5 rfl ?_
        refine k_add (st := []) C Y hW E.cs (by decide) D5 (by decide) _ dX2_writeAnswer_101 (by decide) (fun h1 D6 => ?_)
        refine x_aload_n C dX2_writeAnswer_104 rfl ?_
        refine x_bipush (v := 114) C dX2_writeAnswer_105 (by decide) ?_
        refine k_add (st := []) C Y hW E.cs (by decide) D6 (by decide) _ dX2_writeAnswer_107 (by decide) (fun h7 D7 => ?_)
        -- the address
        obtain ⟨pr7, se7, pt7, bt7, ac7, pg7, sz7, B7, k17, k27, k37⟩ := D7.me hm
        obtain ⟨g7, R7, hb7⟩ := D7.2.2.2.1
        have ra := r_addAddress hW R7 (α m)
        obtain ⟨ea, eb⟩ := adF_n (α m) g7 _ (by decide) hb7 8 (Nat.le_refl _)
        rw [ea] at ra
        refine x_aload_n C dX2_writeAnswer_110 rfl ?_
        refine x_aload_n C dX2_writeAnswer_111 rfl ?_
        refine e_get C Y kd_X2 0 (by decide) wf_X2_37 dX2_writeAnswer_112 B7 rfl ?_
        refine u_callV (st := []) C Y hW E.cs ra md_X5_addAddress wi_X5_addAddress ws_X5_addAddress wm_X2_83 dX2_writeAnswer_115 rfl (by decide) (by decide) R7.2.1 rfl rfl (by decide) ?_
        have D8 := D7.putA (by decide) eb
        generalize rowh c h7 an aa (adF (α m) g7 (0 + 1 + 1 + 1 + 1 + 1 + 1 + 1) 8).1 (0 + 1 + 1 + 1 + 1 + 1 + 1 + 1 + 8) = h8 at D8 ⊢
        obtain ⟨pr8, se8, pt8, bt8, ac8, pg8, sz8, B8, k18, k28, k38⟩ := D8.me hm
        refine x_aload_n C dX2_writeAnswer_118 rfl ?_
        refine x_aload_n C dX2_writeAnswer_119 rfl ?_
        refine e_get C Y kd_X2 7 (by decide) wf_X2_31 dX2_writeAnswer_120 B8 rfl ?_
        refine k_add (st := []) C Y hW E.cs (by decide) D8 (by decide) _ dX2_writeAnswer_123 (by decide) (fun h9 D9 => ?_)
        -- the end: a sum and a stop
        have T196 : ∀ (k : Nat) (hh : PH) (l5 : Option Value), k ≤ 80 → BN c u ma an aa h0 W α f κ k hh → X z 0 0 (EQ hh) 196 [some (.ref m), some (.ref an), some (.int (nI j)), some (.int x3), some (.int (y + x)), l5] [] := fun k hh l5 hk D => by
          obtain ⟨g, R, hb⟩ := D.2.2.2.1
          refine x_aload_n C dX2_writeAnswer_196 rfl ?_
          refine x_aload_n C dX2_writeAnswer_197 rfl ?_
          refine x_iconst (v := 4) C dX2_writeAnswer_198 (by decide) ?_
          refine x_aload_n C dX2_writeAnswer_199 rfl ?_
          refine u_callV (st := [.int 4, .ref an, .ref an]) C Y hW E.cs (r_size hW R) md_X5_size wi_X5_size ws_X5_size wm_X2_41 dX2_writeAnswer_200 rfl (by decide) (by decide) R.2.1 rfl rfl (by simp [Value.category]) ?_
          refine u_callV (st := [.ref an]) C Y hW E.cs (r_sum hW R 4 k (by decide) (by omega)) md_X5_sum wi_X5_sum ws_X5_sum wm_X2_87 dX2_writeAnswer_203 rfl (by decide) (by decide) R.2.1 rfl rfl (by simp [Value.category]) ?_
          refine k_add (st := []) C Y hW E.cs (by decide) D (by omega) _ dX2_writeAnswer_206 (by decide) (fun h1 D1 => ?_)
          refine x_aload_n C dX2_writeAnswer_209 rfl ?_
          refine x_bipush (v := 22) C dX2_writeAnswer_210 (by decide) ?_
          refine k_add (st := []) C Y hW E.cs (by decide) D1 (by omega) _ dX2_writeAnswer_212 (by decide) (fun h2 D2 => ?_)
          exact x_vret C E dX2_writeAnswer_215 (fun g e => by subst e; exact ⟨rfl, _, by omega, D2⟩)
        have T186 : ∀ (k : Nat) (hh : PH) (l5 : Option Value), k ≤ 79 → BN c u ma an aa h0 W α f κ k hh → X z 0 0 (EQ hh) 186 [some (.ref m), some (.ref an), some (.int (nI j)), some (.int x3), some (.int (y + x)), l5] [] := fun k hh l5 hk D => by
          refine x_iload_n C dX2_writeAnswer_186 rfl ?_
          refine x_if_eq (tgt := 196) C dX2_writeAnswer_187 (by decide) (fun _ => T196 k hh l5 (by omega) D) (fun _ => ?_)
          refine x_aload_n C dX2_writeAnswer_190 rfl ?_
          refine x_bipush (v := 31) C dX2_writeAnswer_191 (by decide) ?_
          refine k_add (st := []) C Y hW E.cs (by decide) D (by omega) _ dX2_writeAnswer_193 (by decide) (fun h1 D1 => ?_)
          exact T196 (k + 1) h1 l5 (by omega) D1
        -- the page's bytes
        have LP : ∀ (r i : Nat) (hh : PH), i + r = 60 → BN c u ma an aa h0 W α f κ (19 + i) hh → X z 0 0 (EQ hh) 149 [some (.ref m), some (.ref an), some (.int (nI j)), some (.int x3), some (.int (y + x)), some (.int (nI i))] [] := by
          intro r
          induction r with
          | zero =>
            intro i hh hi D
            obtain rfl : i = 60 := by omega
            obtain ⟨pr, se, pt, bt, ac, pg, sz, B, k1, k2, k3⟩ := D.me hm
            obtain ⟨s, Bs⟩ := D.sz k2
            refine x_iload C dX2_writeAnswer_149 rfl ?_
            refine x_aload_n C dX2_writeAnswer_151 rfl ?_
            refine e_get C Y kd_X2 4 (by decide) wf_X2_20 dX2_writeAnswer_152 B rfl ?_
            refine x_iload_n C dX2_writeAnswer_155 rfl ?_
            refine e_ild C Y dX2_writeAnswer_156 Bs (vp_in_nI hj (by decide)) ?_
            refine x_icmp_ge (tgt := 186) C dX2_writeAnswer_157 (by decide) (fun _ => T186 _ hh _ (by decide) D) (fun _ => ?_)
            refine x_iload C dX2_writeAnswer_160 rfl ?_
            refine x_bipush (v := 60) C dX2_writeAnswer_162 (by decide) ?_
            exact x_icmp_ge (tgt := 186) C dX2_writeAnswer_164 (by decide) (fun _ => T186 _ hh _ (by decide) D) (fun q => absurd (Int32.le_refl _) q)
          | succ r ih =>
            intro i hh hi D
            obtain ⟨pr, se, pt, bt, ac, pg, sz, B, k1, k2, k3⟩ := D.me hm
            obtain ⟨s, Bs⟩ := D.sz k2
            obtain ⟨gp, Bp, hgp⟩ := D.pg k1
            obtain ⟨tp, etp, ktp⟩ := hgp j hj
            obtain ⟨fp, Btp⟩ := D.pp ktp
            refine x_iload C dX2_writeAnswer_149 rfl ?_
            refine x_aload_n C dX2_writeAnswer_151 rfl ?_
            refine e_get C Y kd_X2 4 (by decide) wf_X2_20 dX2_writeAnswer_152 B rfl ?_
            refine x_iload_n C dX2_writeAnswer_155 rfl ?_
            refine e_ild C Y dX2_writeAnswer_156 Bs (vp_in_nI hj (by decide)) ?_
            refine x_icmp_ge (tgt := 186) C dX2_writeAnswer_157 (by decide) (fun _ => T186 _ hh _ (by omega) D) (fun _ => ?_)
            refine x_iload C dX2_writeAnswer_160 rfl ?_
            refine x_bipush (v := 60) C dX2_writeAnswer_162 (by decide) ?_
            refine x_icmp_ge (tgt := 186) C dX2_writeAnswer_164 (by decide) (fun _ => T186 _ hh _ (by omega) D) (fun _ => ?_)
            refine x_aload_n C dX2_writeAnswer_167 rfl ?_
            refine x_aload_n C dX2_writeAnswer_168 rfl ?_
            refine e_get C Y kd_X2 3 (by decide) wf_X2_17 dX2_writeAnswer_169 B rfl ?_
            refine x_iload_n C dX2_writeAnswer_172 rfl ?_
            refine e_ald2 C ht5 dX2_writeAnswer_173 Bp rfl hj (by decide) etp ?_
            refine x_iload C dX2_writeAnswer_174 rfl ?_
            refine e_ild C Y dX2_writeAnswer_176 Btp (vp_in_nI (show i < 60 by omega) (by decide)) ?_
            refine k_add (st := []) C Y hW E.cs (by decide) D (by omega) _ dX2_writeAnswer_177 (by decide) (fun h1 D1 => ?_)
            refine o_iincE (v := nI (i + 1)) (L' := [some _, some _, some _, some _, some _, some _]) C dX2_writeAnswer_180 rfl (nI_1 i) (by rw [hn]; decide) rfl ?_
            refine x_goto (tgt := 149) C dX2_writeAnswer_183 (by decide) ?_
            exact ih (i + 1) h1 (by omega) D1
        -- three zeros
        have LZ3 : ∀ (r i : Nat) (hh : PH), i + r = 3 → BN c u ma an aa h0 W α f κ (16 + i) hh → X z 0 0 (EQ hh) 129 [some (.ref m), some (.ref an), some (.int (nI j)), some (.int x3), some (.int (y + x)), some (.int (nI i))] [] := by
          intro r
          induction r with
          | zero =>
            intro i hh hi D
            obtain rfl : i = 3 := by omega
            refine x_iload C dX2_writeAnswer_129 rfl ?_
            refine x_iconst (v := 3) C dX2_writeAnswer_131 (by decide) ?_
            refine x_icmp_ge (tgt := 146) C dX2_writeAnswer_132 (by decide) (fun _ => ?_) (fun q => absurd (Int32.le_refl _) q)
            refine x_iconst (v := 0) C dX2_writeAnswer_146 (by decide) ?_
            refine o_istoreE (L' := [some _, some _, some _, some _, some _, some _]) C dX2_writeAnswer_147 (by rw [hn]; decide) rfl ?_
            exact LP 60 0 hh rfl D
          | succ r ih =>
            intro i hh hi D
            refine x_iload C dX2_writeAnswer_129 rfl ?_
            refine x_iconst (v := 3) C dX2_writeAnswer_131 (by decide) ?_
            refine x_icmp_ge (tgt := 146) C dX2_writeAnswer_132 (by decide) (fun q => absurd q (Int32.not_le.mpr (nI_lt (show i < 3 by omega) (by decide)))) (fun _ => ?_)
            refine x_aload_n C dX2_writeAnswer_135 rfl ?_
            refine x_iconst (v := 0) C dX2_writeAnswer_136 (by decide) ?_
            refine k_add (st := []) C Y hW E.cs (by decide) D (by omega) _ dX2_writeAnswer_137 (by decide) (fun h1 D1 => ?_)
            refine o_iincE (v := nI (i + 1)) (L' := [some _, some _, some _, some _, some _, some _]) C dX2_writeAnswer_140 rfl (nI_1 i) (by rw [hn]; decide) rfl ?_
            refine x_goto (tgt := 129) C dX2_writeAnswer_143 (by decide) ?_
            exact ih (i + 1) h1 (by omega) D1
        refine x_iconst (v := 0) C dX2_writeAnswer_126 (by decide) ?_
        refine o_istoreE (L' := [some _, some _, some _, some _, some _, some _]) C dX2_writeAnswer_127 (by rw [hn]; decide) rfl ?_
        exact LZ3 3 0 h9 rfl D9
      refine x_if_eq (tgt := 57) C dX2_writeAnswer_50 (by decide) (fun _ => ?_) (fun _ => ?_)
      · exact x_iconst (v := 0) C dX2_writeAnswer_57 (by decide) (T58 _ _)
      · refine x_iconst (v := 1) C dX2_writeAnswer_53 (by decide) ?_
        exact x_goto (tgt := 58) C dX2_writeAnswer_54 (by decide) (T58 _ _)
    refine x_icmp_ge (tgt := 38) C dX2_writeAnswer_31 (by decide) (fun _ => ?_) (fun _ => ?_)
    · exact x_iconst (v := 0) C dX2_writeAnswer_38 (by decide) (T39 _)
    · refine x_iconst (v := 1) C dX2_writeAnswer_34 (by decide) ?_
      exact x_goto (tgt := 39) C dX2_writeAnswer_35 (by decide) (T39 _)
  have T22 : X z 0 0 (EQ h) 22 [some (.ref m), some (.ref an), none, none, none, none] [] := x_iconst (v := 0) C dX2_writeAnswer_22 (by decide) (T23 0 (by decide))
  refine x_aload_n C dX2_writeAnswer_0 rfl ?_
  refine e_get C Y kd_X2 5 (by decide) wf_X2_24 dX2_writeAnswer_1 B rfl ?_
  refine x_if_lt (tgt := 22) C dX2_writeAnswer_4 (by decide) (fun _ => T22) (fun q1 => ?_)
  refine x_aload_n C dX2_writeAnswer_7 rfl ?_
  refine e_get C Y kd_X2 5 (by decide) wf_X2_24 dX2_writeAnswer_8 B rfl ?_
  refine x_iconst (v := 3) C dX2_writeAnswer_11 (by decide) ?_
  refine x_icmp_ge (tgt := 22) C dX2_writeAnswer_12 (by decide) (fun _ => T22) (fun q2 => ?_)
  obtain ⟨j, hj, rfl⟩ := nI_of q1
  have hj3 : j < 3 := (nI_ltI hj (by decide)).mp (Int32.not_le.mp q2)
  refine x_aload_n C dX2_writeAnswer_15 rfl ?_
  refine e_get C Y kd_X2 5 (by decide) wf_X2_24 dX2_writeAnswer_16 B rfl ?_
  exact x_goto (tgt := 23) C dX2_writeAnswer_19 (by decide) (T23 j hj3)
end Met
end
section
/-! Meter: asked; Bus: what is put on it. -/
section Met
variable {w : Wd} {c : Nat → ClassId} {u ma an aa n m : Nat} {h0 h : PH} {W : Nat → Prop} {α : Nat → Int64} {f : Nat → Option Nat} {κ : Nat → Nat}
theorem t_ask (hX : Wx w c) (hm : κ m = 1) (k a : Int32) (hk : k = 91 ∨ k = 123) : T w gw yX2_hearsShort cX2_hearsShort 5 (some .boolean) 4 (40 * 4) 0 0 [.ref m, .int k, .int a, .ref an] (BX c u ma an aa h0 W α f κ) (fun r g => r = some (.int 1) ∧ BX c u ma an aa h0 W α f κ g) := by
  have hW := hX.1
  refine TA.intro hW rfl (by decide +kernel) (Nat.le_of_ble_eq_true rfl) (fun z C Y E hn h D => ?_)
  obtain ⟨n, n90, D⟩ := D
  obtain ⟨pr, se, pt, bt, ac, pg, sz, B, k1, k2, k3⟩ := D.me hm
  obtain ⟨s, Bs⟩ := D.sz k2
  have T51 : X z 0 0 (EQ h) 51 [some (.ref m), some (.int k), some (.int a), some (.ref an), none] [] := by
    refine x_iload_n C dX2_hearsShort_51 rfl ?_
    refine x_iconst (v := 5) C dX2_hearsShort_52 (by decide) ?_
    refine x_ishr C dX2_hearsShort_53 ?_
    refine x_iconst (v := 1) C dX2_hearsShort_54 (by decide) ?_
    refine x_iand C dX2_hearsShort_55 ?_
    refine o_istoreE (L' := [some _, some _, some _, some _, some _]) C dX2_hearsShort_56 (by rw [hn]; decide) rfl ?_
    refine x_aload_n C dX2_hearsShort_58 rfl ?_
    refine x_aload_n C dX2_hearsShort_59 rfl ?_
    refine x_iload C dX2_hearsShort_60 rfl ?_
    refine u_callV (st := [.ref m]) C Y hW E.cs (t_pageToTell hW B Bs _) md_X2_pageToTell wi_X2_pageToTell ws_X2_pageToTell wm_X2_66 dX2_hearsShort_62 rfl (by decide) (by decide) B rfl rfl (by simp [Value.category]) ?_
    refine e_put C Y kd_X2 5 (by decide) rfl wf_X2_24 dX2_hearsShort_65 B (Nat.le_of_ble_eq_true rfl) rfl rfl rfl ?_
    refine x_aload_n C dX2_hearsShort_68 rfl ?_
    refine x_iload C dX2_hearsShort_69 rfl ?_
    refine e_put C Y kd_X2 6 (by decide) rfl wf_X2_28 dX2_hearsShort_71 (hs_self ..) (Nat.le_of_ble_eq_true rfl) rfl rfl (hs_hs ..) ?_
    refine x_aload_n C dX2_hearsShort_74 rfl ?_
    refine x_aload_n C dX2_hearsShort_75 rfl ?_
    refine k_callR (kc := 0) (ks := 0) (mc' := 0) (ms' := 0) (st := []) C Y hW E.cs (t_write hX hm) ⟨n, n90, D.putM hm pr se _ _ ac k1 k2 k3⟩ md_X2_writeAnswer wi_X2_writeAnswer ws_X2_writeAnswer wm_X2_69 dX2_hearsShort_76 rfl (by decide) (by decide) (hs_self ..) rfl rfl (by decide) (fun r g hg => ?_)
    obtain ⟨rfl, n2, n290, D2⟩ := hg
    obtain ⟨pr2, se2, pt2, bt2, ac2, pg2, sz2, B2, k12, k22, k32⟩ := D2.me hm
    refine x_aload_n C dX2_hearsShort_79 rfl ?_
    refine x_aload_n C dX2_hearsShort_80 rfl ?_
    refine e_get C Y kd_X2 7 (by decide) wf_X2_31 dX2_hearsShort_81 B2 rfl ?_
    refine x_iconst (v := 1) C dX2_hearsShort_84 (by decide) ?_
    refine x_iadd C dX2_hearsShort_85 ?_
    refine x_sipush (v := 255) C dX2_hearsShort_86 (by decide) ?_
    refine x_iand C dX2_hearsShort_89 ?_
    refine e_put C Y kd_X2 7 (by decide) rfl wf_X2_31 dX2_hearsShort_90 B2 (Nat.le_of_ble_eq_true rfl) rfl rfl rfl ?_
    refine x_iconst (v := 1) C dX2_hearsShort_93 (by decide) ?_
    exact x_zret C E dX2_hearsShort_94 (by decide) (fun q e => by subst e; exact ⟨rfl, n2, n290, D2.putM hm pr2 se2 pt2 bt2 _ k12 k22 k32⟩)
  refine x_iload_n C dX2_hearsShort_0 rfl ?_
  refine x_bipush (v := 64) C dX2_hearsShort_1 (by decide) ?_
  refine x_icmp_ne (tgt := 39) C dX2_hearsShort_3 (by decide) (fun _ => ?_) (fun q => by rcases hk with rfl | rfl <;> exact absurd q (by decide))
  refine x_iload_n C dX2_hearsShort_39 rfl ?_
  refine x_bipush (v := 91) C dX2_hearsShort_40 (by decide) ?_
  refine x_icmp_eq (tgt := 51) C dX2_hearsShort_42 (by decide) (fun _ => T51) (fun q => ?_)
  refine x_iload_n C dX2_hearsShort_45 rfl ?_
  refine x_bipush (v := 123) C dX2_hearsShort_46 (by decide) ?_
  exact x_icmp_ne (tgt := 95) C dX2_hearsShort_48 (by decide) (fun q2 => absurd (hk.resolve_left q) q2) (fun _ => T51)
section Rows
variable {z : Fx} {cc : ByteArray} {kc ks pc : Nat} {L : List (Option Value)} {st : List Value} {lvl : Nat}
theorem BX.row (D : BX c u ma an aa h0 W α f κ h) : ∃ n g, n ≤ 90 ∧ BN c u ma an aa h0 W α f κ n h ∧ RW c h an aa g n ∧ HB g n := by
  obtain ⟨n, n90, D⟩ := D
  obtain ⟨g, R, hb⟩ := D.2.2.2.1
  exact ⟨n, g, n90, D, R, hb⟩
theorem BN.single (D : BN c u ma an aa h0 W α f κ n h) (g : Nat → Int32) : BX c u ma an aa h0 W α f κ (rowh c h an aa (upd g 0 229) 1) := ⟨1, by decide, D.putA (by decide) (fun j hj => ⟨229, by decide, by
  obtain rfl : j = 0 := by omega
  simp [upd]
  rfl⟩)⟩
/-- meter.hearsShort -/
theorem k_short (hX : Wx w c) (C : Cx z RX0 cc gw) (Y : Cty z c) (E : Cs z w lvl (40 * lvl)) (hl : 4 < lvl) (hm : κ m = 1) (D : BX c u ma an aa h0 W α f κ h) (k a : Int32) (d : decode cc pc = .ok (.invokevirtual 61, 3)) (hcat : (st.map fun v => v.category).sum ≤ 8)
    (kk : ∀ (g : PH) (x : Int32), BX c u ma an aa h0 W α f κ g → X z kc ks (EQ g) (pc + 3) L (.int x :: st)) : X z kc ks (EQ h) pc L (.ref an :: .int a :: .int k :: .ref m :: st) := by
  have hW := hX.1
  obtain ⟨n, g, n90, Dn, R, hb⟩ := D.row
  obtain ⟨pr, se, pt, bt, ac, pg, sz, B, k1, k2, k3⟩ := Dn.me hm
  obtain ⟨a1, a2, -, -⟩ := Dn.apart (q := m) (by omega)
  by_cases e1 : k = 64
  · subst e1
    refine u_callV (st := st) C Y hW E (t_short_r hW B k3 R a1 a2 a) md_X2_hearsShort wi_X2_hearsShort ws_X2_hearsShort wm_X0_61 d rfl (by omega) (by decide) B rfl rfl hcat ?_
    exact kk _ _ ((Dn.putM hm pr _ (-1) (-1) ac k1 k2 (by split; exact Or.inl rfl; exact k3)).single g)
  · by_cases e2 : k = 91 ∨ k = 123
    · refine k_callR (kc := kc) (ks := ks) (mc' := 0) (ms' := 0) (st := st) C Y hW E (t_ask hX hm k a e2) D md_X2_hearsShort wi_X2_hearsShort ws_X2_hearsShort wm_X0_61 d rfl (by omega) (by omega) B rfl rfl hcat (fun r g hg => ?_)
      obtain ⟨rfl, Dg⟩ := hg
      exact kk _ _ Dg
    · refine u_callV (st := st) C Y hW E (t_short_n hW k a e1 (fun q => e2 (Or.inl q)) (fun q => e2 (Or.inr q)) m an) md_X2_hearsShort wi_X2_hearsShort ws_X2_hearsShort wm_X0_61 d rfl (by omega) (by decide) B rfl rfl hcat ?_
      exact kk _ _ D
/-- meter.hearsLong -/
theorem k_long (hX : Wx w c) (C : Cx z RX0 cc gw) (Y : Cty z c) (E : Cs z w lvl (40 * lvl)) (hl : 4 < lvl) (hm : κ m = 1) (D : BX c u ma an aa h0 W α f κ h) {b ba nb : Nat} {fb : Nat → Int32} (Rb : RW c h0 b ba fb nb) (o1 : W b) (o2 : W ba) (d : decode cc pc = .ok (.invokevirtual 85, 3)) (hcat : (st.map fun v => v.category).sum ≤ 8)
    (kk : ∀ (g : PH) (x : Int32), BX c u ma an aa h0 W α f κ g → X z kc ks (EQ g) (pc + 3) L (.int x :: st)) : X z kc ks (EQ h) pc L (.ref an :: .ref b :: .ref m :: st) := by
  have hW := hX.1
  obtain ⟨n, g, n90, Dn, R, hb⟩ := D.row
  obtain ⟨pr, se, pt, bt, ac, pg, sz, B, k1, k2, k3⟩ := Dn.me hm
  obtain ⟨a1, a2, -, -⟩ := Dn.apart (q := m) (by omega)
  have R1 := Dn.out Rb o1 o2
  by_cases gA : lgA fb nb
  · refine u_callV (st := st) C Y hW E (t_long_a hW B R a1 a2 R1 gA) md_X2_hearsLong wi_X2_hearsLong ws_X2_hearsLong wm_X0_85 d rfl (by omega) (by decide) B rfl rfl hcat ?_
    exact kk _ _ ((Dn.putM hm pr se (-1) (-1) ac k1 k2 k3).single g)
  · by_cases gB : lgB fb nb
    · refine u_callV (st := st) C Y hW E (t_long_b hW B R a1 a2 R1 gB) md_X2_hearsLong wi_X2_hearsLong ws_X2_hearsLong wm_X0_85 d rfl (by omega) (by decide) B rfl rfl hcat ?_
      exact kk _ _ ((Dn.putM hm _ se pt bt ac k1 k2 k3).single g)
    · refine u_callV (st := st) C Y hW E (t_long_c hW B R1 gA gB an) md_X2_hearsLong wi_X2_hearsLong ws_X2_hearsLong wm_X0_85 d rfl (by omega) (by decide) B rfl rfl hcat ?_
      exact kk _ _ D
/-- meter.looksAtMask -/
theorem k_looks (hX : Wx w c) (C : Cx z RX0 cc gw) (Y : Cty z c) (E : Cs z w lvl (40 * lvl)) (hl : 4 < lvl) (hm : κ m = 1) (D : BX c u ma an aa h0 W α f κ h) (mk cd : Int64) (d : decode cc pc = .ok (.invokevirtual 69, 3)) (hcat : (st.map fun v => v.category).sum ≤ 8)
    (kk : ∀ (g : PH) (x : Int32), BX c u ma an aa h0 W α f κ g → X z kc ks (EQ g) (pc + 3) L (.int x :: st)) : X z kc ks (EQ h) pc L (.ref an :: .long cd :: .long mk :: .ref m :: st) := by
  have hW := hX.1
  obtain ⟨n, g, n90, Dn, R, hb⟩ := D.row
  obtain ⟨pr, se, pt, bt, ac, pg, sz, B, k1, k2, k3⟩ := Dn.me hm
  obtain ⟨a1, a2, -, -⟩ := Dn.apart (q := m) (by omega)
  by_cases gA : (mk ^^^ α m) &&& cd = 0
  · refine u_callV (st := st) C Y hW E (t_looks_t hW B R a1 a2 mk cd gA) md_X2_looksAtMask wi_X2_looksAtMask ws_X2_looksAtMask wm_X0_69 d rfl (by omega) (by decide) B rfl rfl hcat ?_
    exact kk _ _ ((Dn.putM hm pr 1 pt bt ac k1 k2 (Or.inr rfl)).single g)
  · refine u_callV (st := st) C Y hW E (t_looks_f hW B an mk cd gA) md_X2_looksAtMask wi_X2_looksAtMask ws_X2_looksAtMask wm_X0_69 d rfl (by omega) (by decide) B rfl rfl hcat ?_
    exact kk _ _ ⟨n, n90, Dn.putM hm pr 0 pt bt ac k1 k2 (Or.inl rfl)⟩
/-- meter.isMeant -/
theorem k_meant (hX : Wx w c) (C : Cx z RX0 cc gw) (Y : Cty z c) (E : Cs z w lvl (40 * lvl)) (hl : 4 < lvl) (hm : κ m = 1) (D : BX c u ma an aa h0 W α f κ h) (a : Int32) (d : decode cc pc = .ok (.invokevirtual 57, 3)) (hcat : (st.map fun v => v.category).sum ≤ 8)
    (kk : ∀ x : Int32, X z kc ks (EQ h) (pc + 3) L (.int x :: st)) : X z kc ks (EQ h) pc L (.int a :: .ref m :: st) := by
  have hW := hX.1
  obtain ⟨n, n90, Dn⟩ := D
  obtain ⟨pr, se, pt, bt, ac, pg, sz, B, k1, k2, k3⟩ := Dn.me hm
  exact u_callV (st := st) C Y hW E (t_isMeant hW B k3 a) md_X2_isMeant wi_X2_isMeant ws_X2_isMeant wm_X0_57 d rfl (by omega) (by decide) B rfl rfl hcat (kk _)
/-- meters[k] -/
theorem k_meter (hX : Wx w c) (C : Cx z RX0 cc gw) (E : Cs z w lvl (40 * lvl)) (D : BX c u ma an aa h0 W α f κ h) {j : Nat} (hj : j < 12) (d : decode cc pc = .ok (.aaload, 1))
    (k0 : f j = none → X z kc ks (EQ h) (pc + 1) L (.null :: st)) (k1 : ∀ m, f j = some m → κ m = 1 → X z kc ks (EQ h) (pc + 1) L (.ref m :: st)) : X z kc ks (EQ h) pc L (.int (nI j) :: .ref ma :: st) := by
  obtain ⟨t, ht⟩ := hX.tM E
  obtain ⟨n, n90, Dn⟩ := D
  refine x_aald C ht d (fun q e => by rw [e]; exact Dn.2.1) (vp_in_nI hj (by decide)) ?_
  rw [nI_clamp (by omega)]
  cases e : f j with
  | none => exact k0 e
  | some m => exact k1 m e (Dn.2.2.1 j m e)
end Rows
end Met
section Bus
variable {w : Wd} {c : Nat → ClassId} {u ma an aa n m : Nat} {h0 h : PH} {W : Nat → Prop} {α : Nat → Int64} {f : Nat → Option Nat} {κ : Nat → Nat}
theorem BX.uc (D : BX c u ma an aa h0 W α f κ h) : ∃ fr co : Int32, h u = some (.inr (0, [.ref ma, .ref an, .int fr, .int co])) := by
  obtain ⟨n, n90, Dn⟩ := D
  exact Dn.1
theorem BX.putU (D : BX c u ma an aa h0 W α f κ h) (fr co : Int32) : BX c u ma an aa h0 W α f κ (hs h u (.inr (0, [.ref ma, .ref an, .int fr, .int co]))) := by
  obtain ⟨n, n90, Dn⟩ := D
  exact ⟨n, n90, Dn.putU fr co⟩
theorem u_outcome (hX : Wx w c) (x : Int32) : T w gw yX0_outcome cX0_outcome 2 (some .int) 1 (40 * 1) 0 0 [.ref u, .int x] (BX c u ma an aa h0 W α f κ) (fun r g => (∃ v, r = some (.int v)) ∧ BX c u ma an aa h0 W α f κ g) := by
  have hW := hX.1
  refine TA.intro hW rfl (by decide +kernel) (Nat.le_of_ble_eq_true rfl) (fun z C Y E hn h D => ?_)
  obtain ⟨fr, co, B⟩ := D.uc
  obtain ⟨n, g, n90, Dn, R, hb⟩ := D.row
  refine x_iload_n C dX0_outcome_0 rfl ?_
  refine x_iconst (v := 1) C dX0_outcome_1 (by decide) ?_
  refine x_icmp_ne (tgt := 13) C dX0_outcome_2 (by decide) (fun _ => ?_) (fun _ => ?_)
  · have e0 : rCut n 0 = 0 := by
      unfold rCut
      split
      · rfl
      · rename_i q
        exact Decidable.byContradiction fun q2 => q ⟨Int32.le_refl _, nI_lt (a := 0) (show 0 < n by omega) (by omega)⟩
    have rc := r_cutTo hW R 0
    rw [e0] at rc
    refine x_aload_n C dX0_outcome_13 rfl ?_
    refine e_get C Y kd_X0 1 (by decide) wf_X0_20 dX0_outcome_14 B rfl ?_
    refine x_iconst (v := 0) C dX0_outcome_17 (by decide) ?_
    refine u_callV (st := []) C Y hW E.cs rc md_X5_cutTo wi_X5_cutTo ws_X5_cutTo wm_X0_96 dX0_outcome_18 rfl (by decide) (by decide) R.2.1 rfl rfl (by decide) ?_
    have D0 : BX c u ma an aa h0 W α f κ (rowh c h an aa g 0) := ⟨0, by decide, Dn.putA (by decide) (fun j hj => absurd hj (Nat.not_lt_zero j))⟩
    generalize rowh c h an aa g 0 = h1 at D0 ⊢
    obtain ⟨fr1, co1, B1⟩ := D0.uc
    refine x_iload_n C dX0_outcome_21 rfl ?_
    refine x_if_ne (tgt := 27) C dX0_outcome_22 (by decide) (fun _ => ?_) (fun _ => ?_)
    · refine x_aload_n C dX0_outcome_27 rfl ?_
      refine x_dup C dX0_outcome_28 rfl ?_
      refine e_get C Y kd_X0 3 (by decide) wf_X0_28 dX0_outcome_29 B1 rfl ?_
      refine x_iconst (v := 1) C dX0_outcome_32 (by decide) ?_
      refine x_iadd C dX0_outcome_33 ?_
      refine e_put C Y kd_X0 3 (by decide) rfl wf_X0_28 dX0_outcome_34 B1 (Nat.le_of_ble_eq_true rfl) rfl rfl rfl ?_
      refine x_bipush (v := -2) C dX0_outcome_37 (by decide) ?_
      exact x_iret C E dX0_outcome_39 (fun q e => by subst e; exact ⟨⟨_, rfl⟩, D0.putU _ _⟩)
    · refine x_iconst (v := 0) C dX0_outcome_25 (by decide) ?_
      exact x_iret C E dX0_outcome_26 (fun q e => by subst e; exact ⟨⟨_, rfl⟩, D0⟩)
  · refine x_aload_n C dX0_outcome_5 rfl ?_
    refine e_get C Y kd_X0 1 (by decide) wf_X0_20 dX0_outcome_6 B rfl ?_
    refine u_callV (st := []) C Y hW E.cs (r_size hW R) md_X5_size wi_X5_size ws_X5_size wm_X0_93 dX0_outcome_9 rfl (by decide) (by decide) R.2.1 rfl rfl (by decide) ?_
    exact x_iret C E dX0_outcome_12 (fun q e => by subst e; exact ⟨⟨_, rfl⟩, D⟩)
theorem u_putShort (hX : Wx w c) (k a : Int32) : T w gw yX0_putShort cX0_putShort 6 (some .int) 5 (40 * 5) 0 0 [.ref u, .int k, .int a] (BX c u ma an aa h0 W α f κ) (fun r g => (∃ v, r = some (.int v)) ∧ BX c u ma an aa h0 W α f κ g) := by
  have hW := hX.1
  refine TA.intro hW rfl (by decide +kernel) (Nat.le_of_ble_eq_true rfl) (fun z C Y E hn h D => ?_)
  obtain ⟨fr, co, B⟩ := D.uc
  refine x_aload_n C dX0_putShort_0 rfl ?_
  refine x_dup C dX0_putShort_1 rfl ?_
  refine e_get C Y kd_X0 2 (by decide) wf_X0_24 dX0_putShort_2 B rfl ?_
  refine x_iconst (v := 1) C dX0_putShort_5 (by decide) ?_
  refine x_iadd C dX0_putShort_6 ?_
  refine e_put C Y kd_X0 2 (by decide) rfl wf_X0_24 dX0_putShort_7 B (Nat.le_of_ble_eq_true rfl) rfl rfl rfl ?_
  have LP : ∀ (r j : Nat) (x : Int32) (l5 : Option Value) (h : PH), j + r = 12 → BX c u ma an aa h0 W α f κ h → X z 0 0 (EQ h) 15 [some (.ref u), some (.int k), some (.int a), some (.int x), some (.int (nI j)), l5] [] := by
    intro r
    induction r with
    | zero =>
      intro j x l5 h hj D
      obtain rfl : j = 12 := by omega
      obtain ⟨fr, co, B⟩ := D.uc
      have T81 : ∀ y : Int32, X z 0 0 (EQ h) 81 [some (.ref u), some (.int k), some (.int a), some (.int x), some (.int (nI 12)), l5] [.int y, .ref u] := fun y => by
        refine k_callR (kc := 0) (ks := 0) (mc' := 0) (ms' := 0) (st := []) C Y hW E.cs (u_outcome hX y) D md_X0_outcome wi_X0_outcome ws_X0_outcome wm_X0_54 dX0_putShort_81 rfl (by decide) (by decide) B rfl rfl (by decide) (fun r g hg => ?_)
        obtain ⟨⟨v, rfl⟩, Dg⟩ := hg
        exact x_iret C E dX0_putShort_84 (fun q e => by subst e; exact ⟨⟨_, rfl⟩, Dg⟩)
      refine x_iload C dX0_putShort_15 rfl ?_
      refine x_bipush (v := 12) C dX0_putShort_17 (by decide) ?_
      refine x_icmp_ge (tgt := 68) C dX0_putShort_19 (by decide) (fun _ => ?_) (fun q => absurd (Int32.le_refl _) q)
      refine x_aload_n C dX0_putShort_68 rfl ?_
      refine x_iload_n C dX0_putShort_69 rfl ?_
      refine x_sipush (v := 255) C dX0_putShort_70 (by decide) ?_
      refine x_icmp_ne (tgt := 80) C dX0_putShort_73 (by decide) (fun _ => ?_) (fun _ => ?_)
      · exact x_iload_n C dX0_putShort_80 rfl (T81 _)
      · refine x_iconst (v := 0) C dX0_putShort_76 (by decide) ?_
        exact x_goto (tgt := 81) C dX0_putShort_77 (by decide) (T81 _)
    | succ r ih =>
      intro j x l5 h hj D
      obtain ⟨fr, co, B⟩ := D.uc
      have T62 : ∀ (x : Int32) (l5 : Option Value) (h : PH), BX c u ma an aa h0 W α f κ h → X z 0 0 (EQ h) 62 [some (.ref u), some (.int k), some (.int a), some (.int x), some (.int (nI j)), l5] [] := fun x l5 h D => by
        refine o_iincE (v := nI (j + 1)) (L' := [some _, some _, some _, some _, some _, l5]) C dX0_putShort_62 rfl (nI_1 j) (by rw [hn]; decide) rfl ?_
        refine x_goto (tgt := 15) C dX0_putShort_65 (by decide) ?_
        exact ih (j + 1) x l5 h (by omega) D
      refine x_iload C dX0_putShort_15 rfl ?_
      refine x_bipush (v := 12) C dX0_putShort_17 (by decide) ?_
      refine x_icmp_ge (tgt := 68) C dX0_putShort_19 (by decide) (fun q => absurd q (Int32.not_le.mpr (nI_lt (show j < 12 by omega) (by decide)))) (fun _ => ?_)
      refine x_aload_n C dX0_putShort_22 rfl ?_
      refine e_get C Y kd_X0 0 (by decide) wf_X0_11 dX0_putShort_23 B rfl ?_
      refine x_iload C dX0_putShort_26 rfl ?_
      refine k_meter hX C E.cs D (show j < 12 by omega) dX0_putShort_28 (fun _ => ?_) (fun m em hm => ?_)
      · refine o_astoreN (L' := [some _, some _, some _, some _, some _, some _]) C dX0_putShort_29 (by rw [hn]; decide) rfl ?_
        refine x_aloadN C dX0_putShort_31 rfl ?_
        exact x_ifnullN (tgt := 62) C dX0_putShort_33 (by decide) (T62 _ _ _ D)
      · refine o_astoreE (L' := [some _, some _, some _, some _, some _, some _]) C dX0_putShort_29 (by rw [hn]; decide) rfl ?_
        refine x_aload C dX0_putShort_31 rfl ?_
        refine x_ifnull C dX0_putShort_33 ?_
        refine x_aload C dX0_putShort_36 rfl ?_
        refine x_iload_n C dX0_putShort_38 rfl ?_
        refine k_meant (st := []) hX C Y E.cs (by decide) hm D a dX0_putShort_39 (by decide) (fun y => ?_)
        refine x_if_eq (tgt := 62) C dX0_putShort_42 (by decide) (fun _ => T62 _ _ _ D) (fun _ => ?_)
        refine x_aload C dX0_putShort_45 rfl ?_
        refine x_iload_n C dX0_putShort_47 rfl ?_
        refine x_iload_n C dX0_putShort_48 rfl ?_
        refine x_aload_n C dX0_putShort_49 rfl ?_
        refine e_get C Y kd_X0 1 (by decide) wf_X0_20 dX0_putShort_50 B rfl ?_
        refine k_short (st := []) hX C Y E.cs (by decide) hm D k a dX0_putShort_53 (by decide) (fun g y2 Dg => ?_)
        refine x_if_eq (tgt := 62) C dX0_putShort_56 (by decide) (fun _ => T62 _ _ _ Dg) (fun _ => ?_)
        refine o_iincE (L' := [some _, some _, some _, some _, some _, some _]) C dX0_putShort_59 rfl rfl (by rw [hn]; decide) rfl ?_
        exact T62 _ _ _ Dg
  refine x_iconst (v := 0) C dX0_putShort_10 (by decide) ?_
  refine o_istore_nE (L' := [some _, some _, some _, some _, none, none]) C dX0_putShort_11 (by rw [hn]; decide) rfl ?_
  refine x_iconst (v := 0) C dX0_putShort_12 (by decide) ?_
  refine o_istoreE (L' := [some _, some _, some _, some _, some _, none]) C dX0_putShort_13 (by rw [hn]; decide) rfl ?_
  exact LP 12 0 _ _ _ rfl (D.putU _ _)
end Bus
end
section
/-! Bus: masks, long frames, anything. -/
section Bus
variable {w : Wd} {c : Nat → ClassId} {u ma an aa n m : Nat} {h0 h : PH} {W : Nat → Prop} {α : Nat → Int64} {f : Nat → Option Nat} {κ : Nat → Nat}
theorem u_putSelect (hX : Wx w c) (mk : Int64) : T w gw yX0_putSelect cX0_putSelect 8 (some .int) 5 (40 * 5) 0 0 [.ref u, .long mk] (BX c u ma an aa h0 W α f κ) (fun r g => (∃ v, r = some (.int v)) ∧ BX c u ma an aa h0 W α f κ g) := by
  have hW := hX.1
  refine TA.intro hW rfl (by decide +kernel) (Nat.le_of_ble_eq_true rfl) (fun z C Y E hn h D => ?_)
  obtain ⟨fr, co, B⟩ := D.uc
  refine x_aload_n C dX0_putSelect_0 rfl ?_
  refine x_dup C dX0_putSelect_1 rfl ?_
  refine e_get C Y kd_X0 2 (by decide) wf_X0_24 dX0_putSelect_2 B rfl ?_
  refine x_iconst (v := 1) C dX0_putSelect_5 (by decide) ?_
  refine x_iadd C dX0_putSelect_6 ?_
  refine e_put C Y kd_X0 2 (by decide) rfl wf_X0_24 dX0_putSelect_7 B (Nat.le_of_ble_eq_true rfl) rfl rfl rfl ?_
  refine x_lload_n C dX0_putSelect_10 rfl ?_
  refine k_callS (kc := 0) (ks := 0) (mc' := 0) (ms' := 0) (st := []) C E.cs hW.1 gw_good (b_caredBits hW mk) md_X0_caredBits wt_X0_caredBits wm_X0_65 dX0_putSelect_11 rfl (by decide) (by decide) rfl (by decide) (fun r => X.opn (fun g hg => ?_))
  obtain ⟨⟨cd, rfl⟩, rfl⟩ := hg
  have LP : ∀ (r j : Nat) (x : Int32) (l7 : Option Value) (h : PH), j + r = 12 → BX c u ma an aa h0 W α f κ h → X z 0 0 (EQ h) 21 [some (.ref u), some (.long mk), none, some (.long cd), none, some (.int x), some (.int (nI j)), l7] [] := by
    intro r
    induction r with
    | zero =>
      intro j x l7 h hj D
      obtain rfl : j = 12 := by omega
      obtain ⟨fr, co, B⟩ := D.uc
      refine x_iload C dX0_putSelect_21 rfl ?_
      refine x_bipush (v := 12) C dX0_putSelect_23 (by decide) ?_
      refine x_icmp_ge (tgt := 65) C dX0_putSelect_25 (by decide) (fun _ => ?_) (fun q => absurd (Int32.le_refl _) q)
      refine x_aload_n C dX0_putSelect_65 rfl ?_
      refine x_iload C dX0_putSelect_66 rfl ?_
      refine k_callR (kc := 0) (ks := 0) (mc' := 0) (ms' := 0) (st := []) C Y hW E.cs (u_outcome hX _) D md_X0_outcome wi_X0_outcome ws_X0_outcome wm_X0_54 dX0_putSelect_68 rfl (by decide) (by decide) B rfl rfl (by decide) (fun r g hg => ?_)
      obtain ⟨⟨v, rfl⟩, Dg⟩ := hg
      exact x_iret C E dX0_putSelect_71 (fun q e => by subst e; exact ⟨⟨_, rfl⟩, Dg⟩)
    | succ r ih =>
      intro j x l7 h hj D
      obtain ⟨fr, co, B⟩ := D.uc
      have T59 : ∀ (x : Int32) (l7 : Option Value) (h : PH), BX c u ma an aa h0 W α f κ h → X z 0 0 (EQ h) 59 [some (.ref u), some (.long mk), none, some (.long cd), none, some (.int x), some (.int (nI j)), l7] [] := fun x l7 h D => by
        refine o_iincE (v := nI (j + 1)) (L' := [some _, some _, none, some _, none, some _, some _, l7]) C dX0_putSelect_59 rfl (nI_1 j) (by rw [hn]; decide) rfl ?_
        refine x_goto (tgt := 21) C dX0_putSelect_62 (by decide) ?_
        exact ih (j + 1) x l7 h (by omega) D
      refine x_iload C dX0_putSelect_21 rfl ?_
      refine x_bipush (v := 12) C dX0_putSelect_23 (by decide) ?_
      refine x_icmp_ge (tgt := 65) C dX0_putSelect_25 (by decide) (fun q => absurd q (Int32.not_le.mpr (nI_lt (show j < 12 by omega) (by decide)))) (fun _ => ?_)
      refine x_aload_n C dX0_putSelect_28 rfl ?_
      refine e_get C Y kd_X0 0 (by decide) wf_X0_11 dX0_putSelect_29 B rfl ?_
      refine x_iload C dX0_putSelect_32 rfl ?_
      refine k_meter hX C E.cs D (show j < 12 by omega) dX0_putSelect_34 (fun _ => ?_) (fun m em hm => ?_)
      · refine o_astoreN (L' := [some _, some _, none, some _, none, some _, some _, some _]) C dX0_putSelect_35 (by rw [hn]; decide) rfl ?_
        refine x_aloadN C dX0_putSelect_37 rfl ?_
        exact x_ifnullN (tgt := 59) C dX0_putSelect_39 (by decide) (T59 _ _ _ D)
      · refine o_astoreE (L' := [some _, some _, none, some _, none, some _, some _, some _]) C dX0_putSelect_35 (by rw [hn]; decide) rfl ?_
        refine x_aload C dX0_putSelect_37 rfl ?_
        refine x_ifnull C dX0_putSelect_39 ?_
        refine x_aload C dX0_putSelect_42 rfl ?_
        refine x_lload_n C dX0_putSelect_44 rfl ?_
        refine x_lload_n C dX0_putSelect_45 rfl ?_
        refine x_aload_n C dX0_putSelect_46 rfl ?_
        refine e_get C Y kd_X0 1 (by decide) wf_X0_20 dX0_putSelect_47 B rfl ?_
        refine k_looks (st := []) hX C Y E.cs (by decide) hm D mk cd dX0_putSelect_50 (by decide) (fun g y2 Dg => ?_)
        refine x_if_eq (tgt := 59) C dX0_putSelect_53 (by decide) (fun _ => T59 _ _ _ Dg) (fun _ => ?_)
        refine o_iincE (L' := [some _, some _, none, some _, none, some _, some _, some _]) C dX0_putSelect_56 rfl rfl (by rw [hn]; decide) rfl ?_
        exact T59 _ _ _ Dg
  refine o_lstore_nE (L' := [some _, some _, none, some _, none, none, none, none]) C dX0_putSelect_14 (by rw [hn]; decide) rfl ?_
  refine x_iconst (v := 0) C dX0_putSelect_15 (by decide) ?_
  refine o_istoreE (L' := [some _, some _, none, some _, none, some _, none, none]) C dX0_putSelect_16 (by rw [hn]; decide) rfl ?_
  refine x_iconst (v := 0) C dX0_putSelect_18 (by decide) ?_
  refine o_istoreE (L' := [some _, some _, none, some _, none, some _, some _, none]) C dX0_putSelect_19 (by rw [hn]; decide) rfl ?_
  exact LP 12 0 _ _ _ rfl (D.putU _ _)
section Frames
variable {b ba nb : Nat} {fb : Nat → Int32}
theorem BX.out (D : BX c u ma an aa h0 W α f κ h) (R : RW c h0 b ba fb nb) (o1 : W b) (o2 : W ba) : RW c h b ba fb nb := by
  obtain ⟨n, n90, Dn⟩ := D
  exact Dn.out R o1 o2
theorem u_putSending (hX : Wx w c) (Rb : RW c h0 b ba fb nb) (o1 : W b) (o2 : W ba) : T w gw yX0_putSendingFrame cX0_putSendingFrame 6 (some .int) 6 (40 * 6) 0 0 [.ref u, .ref b] (BX c u ma an aa h0 W α f κ) (fun r g => (∃ v, r = some (.int v)) ∧ BX c u ma an aa h0 W α f κ g) := by
  have hW := hX.1
  refine TA.intro hW rfl (by decide +kernel) (Nat.le_of_ble_eq_true rfl) (fun z C Y E hn h D => ?_)
  obtain ⟨fr, co, B⟩ := D.uc
  have R := D.out Rb o1 o2
  have kat : ∀ {kc ks pc : Nat} {L : List (Option Value)} {st : List Value} {h : PH} (R : RW c h b ba fb nb) (x : Int32) (d : decode cX0_putSendingFrame pc = .ok (.invokevirtual 39, 3)) (hcat : (st.map fun v => v.category).sum ≤ 8) (k : X z kc ks (EQ h) (pc + 3) L (.int (rAt fb nb x) :: st)), X z kc ks (EQ h) pc L (.int x :: .ref b :: st) := fun R x d hcat k => u_callV C Y hW E.cs (r_at hW R x) md_X5_at wi_X5_at ws_X5_at wm_X0_39 d rfl (by decide) (by decide) R.2.1 rfl rfl hcat k
  refine x_aload_n C dX0_putSendingFrame_0 rfl ?_
  refine x_iconst (v := 5) C dX0_putSendingFrame_1 (by decide) ?_
  refine kat (st := []) R _ dX0_putSendingFrame_2 (by decide) ?_
  generalize rAt fb nb 5 = a
  refine o_istore_nE (L' := [some _, some _, some _, none, none, none]) C dX0_putSendingFrame_5 (by rw [hn]; decide) rfl ?_
  have LP : ∀ (r j : Nat) (x : Int32) (l5 : Option Value) (h : PH), j + r = 12 → BX c u ma an aa h0 W α f κ h → X z 0 0 (EQ h) 59 [some (.ref u), some (.ref b), some (.int a), some (.int x), some (.int (nI j)), l5] [] := by
    intro r
    induction r with
    | zero =>
      intro j x l5 h hj D
      obtain rfl : j = 12 := by omega
      obtain ⟨fr, co, B⟩ := D.uc
      have T124 : ∀ y : Int32, X z 0 0 (EQ h) 124 [some (.ref u), some (.ref b), some (.int a), some (.int x), some (.int (nI 12)), l5] [.int y, .ref u] := fun y => by
        refine k_callR (kc := 0) (ks := 0) (mc' := 0) (ms' := 0) (st := []) C Y hW E.cs (u_outcome hX y) D md_X0_outcome wi_X0_outcome ws_X0_outcome wm_X0_54 dX0_putSendingFrame_124 rfl (by decide) (by decide) B rfl rfl (by decide) (fun r g hg => ?_)
        obtain ⟨⟨v, rfl⟩, Dg⟩ := hg
        exact x_iret C E dX0_putSendingFrame_127 (fun q e => by subst e; exact ⟨⟨_, rfl⟩, Dg⟩)
      refine x_iload C dX0_putSendingFrame_59 rfl ?_
      refine x_bipush (v := 12) C dX0_putSendingFrame_61 (by decide) ?_
      refine x_icmp_ge (tgt := 111) C dX0_putSendingFrame_63 (by decide) (fun _ => ?_) (fun q => absurd (Int32.le_refl _) q)
      refine x_aload_n C dX0_putSendingFrame_111 rfl ?_
      refine x_iload_n C dX0_putSendingFrame_112 rfl ?_
      refine x_sipush (v := 255) C dX0_putSendingFrame_113 (by decide) ?_
      refine x_icmp_ne (tgt := 123) C dX0_putSendingFrame_116 (by decide) (fun _ => ?_) (fun _ => ?_)
      · exact x_iload_n C dX0_putSendingFrame_123 rfl (T124 _)
      · refine x_iconst (v := 0) C dX0_putSendingFrame_119 (by decide) ?_
        exact x_goto (tgt := 124) C dX0_putSendingFrame_120 (by decide) (T124 _)
    | succ r ih =>
      intro j x l5 h hj D
      obtain ⟨fr, co, B⟩ := D.uc
      have T105 : ∀ (x : Int32) (l5 : Option Value) (h : PH), BX c u ma an aa h0 W α f κ h → X z 0 0 (EQ h) 105 [some (.ref u), some (.ref b), some (.int a), some (.int x), some (.int (nI j)), l5] [] := fun x l5 h D => by
        refine o_iincE (v := nI (j + 1)) (L' := [some _, some _, some _, some _, some _, l5]) C dX0_putSendingFrame_105 rfl (nI_1 j) (by rw [hn]; decide) rfl ?_
        refine x_goto (tgt := 59) C dX0_putSendingFrame_108 (by decide) ?_
        exact ih (j + 1) x l5 h (by omega) D
      refine x_iload C dX0_putSendingFrame_59 rfl ?_
      refine x_bipush (v := 12) C dX0_putSendingFrame_61 (by decide) ?_
      refine x_icmp_ge (tgt := 111) C dX0_putSendingFrame_63 (by decide) (fun q => absurd q (Int32.not_le.mpr (nI_lt (show j < 12 by omega) (by decide)))) (fun _ => ?_)
      refine x_aload_n C dX0_putSendingFrame_66 rfl ?_
      refine e_get C Y kd_X0 0 (by decide) wf_X0_11 dX0_putSendingFrame_67 B rfl ?_
      refine x_iload C dX0_putSendingFrame_70 rfl ?_
      refine k_meter hX C E.cs D (show j < 12 by omega) dX0_putSendingFrame_72 (fun _ => ?_) (fun m em hm => ?_)
      · refine o_astoreN (L' := [some _, some _, some _, some _, some _, some _]) C dX0_putSendingFrame_73 (by rw [hn]; decide) rfl ?_
        refine x_aloadN C dX0_putSendingFrame_75 rfl ?_
        exact x_ifnullN (tgt := 105) C dX0_putSendingFrame_77 (by decide) (T105 _ _ _ D)
      · refine o_astoreE (L' := [some _, some _, some _, some _, some _, some _]) C dX0_putSendingFrame_73 (by rw [hn]; decide) rfl ?_
        refine x_aload C dX0_putSendingFrame_75 rfl ?_
        refine x_ifnull C dX0_putSendingFrame_77 ?_
        refine x_aload C dX0_putSendingFrame_80 rfl ?_
        refine x_iload_n C dX0_putSendingFrame_82 rfl ?_
        refine k_meant (st := []) hX C Y E.cs (by decide) hm D a dX0_putSendingFrame_83 (by decide) (fun y => ?_)
        refine x_if_eq (tgt := 105) C dX0_putSendingFrame_86 (by decide) (fun _ => T105 _ _ _ D) (fun _ => ?_)
        refine x_aload C dX0_putSendingFrame_89 rfl ?_
        refine x_aload_n C dX0_putSendingFrame_91 rfl ?_
        refine x_aload_n C dX0_putSendingFrame_92 rfl ?_
        refine e_get C Y kd_X0 1 (by decide) wf_X0_20 dX0_putSendingFrame_93 B rfl ?_
        refine k_long (st := []) hX C Y E.cs (by decide) hm D Rb o1 o2 dX0_putSendingFrame_96 (by decide) (fun g y2 Dg => ?_)
        refine x_if_eq (tgt := 105) C dX0_putSendingFrame_99 (by decide) (fun _ => T105 _ _ _ Dg) (fun _ => ?_)
        refine o_iincE (L' := [some _, some _, some _, some _, some _, some _]) C dX0_putSendingFrame_102 rfl rfl (by rw [hn]; decide) rfl ?_
        exact T105 _ _ _ Dg
  have T44 : X z 0 0 (EQ h) 44 [some (.ref u), some (.ref b), some (.int a), none, none, none] [] := by
    refine x_aload_n C dX0_putSendingFrame_44 rfl ?_
    refine x_dup C dX0_putSendingFrame_45 rfl ?_
    refine e_get C Y kd_X0 2 (by decide) wf_X0_24 dX0_putSendingFrame_46 B rfl ?_
    refine x_iconst (v := 1) C dX0_putSendingFrame_49 (by decide) ?_
    refine x_iadd C dX0_putSendingFrame_50 ?_
    refine e_put C Y kd_X0 2 (by decide) rfl wf_X0_24 dX0_putSendingFrame_51 B (Nat.le_of_ble_eq_true rfl) rfl rfl rfl ?_
    refine x_iconst (v := 0) C dX0_putSendingFrame_54 (by decide) ?_
    refine o_istore_nE (L' := [some _, some _, some _, some _, none, none]) C dX0_putSendingFrame_55 (by rw [hn]; decide) rfl ?_
    refine x_iconst (v := 0) C dX0_putSendingFrame_56 (by decide) ?_
    refine o_istoreE (L' := [some _, some _, some _, some _, some _, none]) C dX0_putSendingFrame_57 (by rw [hn]; decide) rfl ?_
    exact LP 12 0 _ _ _ rfl (D.putU _ _)
  refine x_aload_n C dX0_putSendingFrame_6 rfl ?_
  refine x_bipush (v := 6) C dX0_putSendingFrame_7 (by decide) ?_
  refine kat (st := []) R _ dX0_putSendingFrame_9 (by decide) ?_
  refine x_bipush (v := 82) C dX0_putSendingFrame_12 (by decide) ?_
  refine x_icmp_ne (tgt := 44) C dX0_putSendingFrame_14 (by decide) (fun _ => T44) (fun _ => ?_)
  refine x_aload_n C dX0_putSendingFrame_17 rfl ?_
  refine u_callV (st := []) C Y hW E.cs (r_dataSize hW R) md_X5_dataSize wi_X5_dataSize ws_X5_dataSize wm_X0_73 dX0_putSendingFrame_18 rfl (by decide) (by decide) R.2.1 rfl rfl (by decide) ?_
  refine x_bipush (v := 8) C dX0_putSendingFrame_21 (by decide) ?_
  refine x_icmp_ne (tgt := 44) C dX0_putSendingFrame_23 (by decide) (fun _ => T44) (fun _ => ?_)
  refine x_iload_n C dX0_putSendingFrame_26 rfl ?_
  refine x_sipush (v := 253) C dX0_putSendingFrame_27 (by decide) ?_
  refine x_icmp_ne (tgt := 44) C dX0_putSendingFrame_30 (by decide) (fun _ => T44) (fun _ => ?_)
  refine x_aload_n C dX0_putSendingFrame_33 rfl ?_
  refine x_aload_n C dX0_putSendingFrame_34 rfl ?_
  refine x_bipush (v := 7) C dX0_putSendingFrame_35 (by decide) ?_
  refine u_callV (st := [.ref u]) C Y hW E.cs (r_addressAt hW R 7 (by decide)) md_X5_addressAt wi_X5_addressAt ws_X5_addressAt wm_X0_77 dX0_putSendingFrame_37 rfl (by decide) (by decide) R.2.1 rfl rfl (by simp [Value.category]) ?_
  refine k_callR (kc := 0) (ks := 0) (mc' := 0) (ms' := 0) (st := []) C Y hW E.cs (u_putSelect hX _) D md_X0_putSelect wi_X0_putSelect ws_X0_putSelect wm_X0_81 dX0_putSendingFrame_40 rfl (by decide) (by decide) B rfl rfl (by decide) (fun r g hg => ?_)
  obtain ⟨⟨v, rfl⟩, Dg⟩ := hg
  exact x_iret C E dX0_putSendingFrame_43 (fun q e => by subst e; exact ⟨⟨_, rfl⟩, Dg⟩)
theorem u_put (hX : Wx w c) (Rb : RW c h0 b ba fb nb) (o1 : W b) (o2 : W ba) : T w gw yX0_put cX0_put 2 (some .int) 7 (40 * 7) 0 0 [.ref u, .ref b] (BX c u ma an aa h0 W α f κ) (fun r g => (∃ v, r = some (.int v)) ∧ BX c u ma an aa h0 W α f κ g) := by
  have hW := hX.1
  refine TA.intro hW rfl (by decide +kernel) (Nat.le_of_ble_eq_true rfl) (fun z C Y E hn h D => ?_)
  obtain ⟨fr, co, B⟩ := D.uc
  have R := D.out Rb o1 o2
  have kat : ∀ {kc ks pc : Nat} {L : List (Option Value)} {st : List Value} {h : PH} (R : RW c h b ba fb nb) (x : Int32) (d : decode cX0_put pc = .ok (.invokevirtual 39, 3)) (hcat : (st.map fun v => v.category).sum ≤ 8) (k : X z kc ks (EQ h) (pc + 3) L (.int (rAt fb nb x) :: st)), X z kc ks (EQ h) pc L (.int x :: .ref b :: st) := fun R x d hcat k => u_callV C Y hW E.cs (r_at hW R x) md_X5_at wi_X5_at ws_X5_at wm_X0_39 d rfl (by decide) (by decide) R.2.1 rfl rfl hcat k
  have T55 : X z 0 0 (EQ h) 55 [some (.ref u), some (.ref b)] [] := by
    refine x_aload_n C dX0_put_55 rfl ?_
    refine x_dup C dX0_put_56 rfl ?_
    refine e_get C Y kd_X0 2 (by decide) wf_X0_24 dX0_put_57 B rfl ?_
    refine x_iconst (v := 1) C dX0_put_60 (by decide) ?_
    refine x_iadd C dX0_put_61 ?_
    refine e_put C Y kd_X0 2 (by decide) rfl wf_X0_24 dX0_put_62 B (Nat.le_of_ble_eq_true rfl) rfl rfl rfl ?_
    refine x_aload_n C dX0_put_65 rfl ?_
    refine x_iconst (v := 0) C dX0_put_66 (by decide) ?_
    refine k_callR (kc := 0) (ks := 0) (mc' := 0) (ms' := 0) (st := []) C Y hW E.cs (u_outcome hX 0) (D.putU _ _) md_X0_outcome wi_X0_outcome ws_X0_outcome wm_X0_54 dX0_put_67 rfl (by decide) (by decide) (hs_self ..) rfl rfl (by decide) (fun r g hg => ?_)
    obtain ⟨⟨v, rfl⟩, Dg⟩ := hg
    exact x_iret C E dX0_put_70 (fun q e => by subst e; exact ⟨⟨_, rfl⟩, Dg⟩)
  have T49 : X z 0 0 (EQ h) 49 [some (.ref u), some (.ref b)] [] := by
    refine x_aload_n C dX0_put_49 rfl ?_
    refine x_aload_n C dX0_put_50 rfl ?_
    refine k_callR (kc := 0) (ks := 0) (mc' := 0) (ms' := 0) (st := []) C Y hW E.cs (u_putSending hX Rb o1 o2) D md_X0_putSendingFrame wi_X0_putSendingFrame ws_X0_putSendingFrame wm_X0_50 dX0_put_51 rfl (by decide) (by decide) B rfl rfl (by decide) (fun r g hg => ?_)
    obtain ⟨⟨v, rfl⟩, Dg⟩ := hg
    exact x_iret C E dX0_put_54 (fun q e => by subst e; exact ⟨⟨_, rfl⟩, Dg⟩)
  refine x_aload_n C dX0_put_0 rfl ?_
  refine u_callV (st := []) C Y hW E.cs (r_isShortFrame hW R) md_X5_isShortFrame wi_X5_isShortFrame ws_X5_isShortFrame wm_X0_35 dX0_put_1 rfl (by decide) (by decide) R.2.1 rfl rfl (by decide) ?_
  refine x_if_eq (tgt := 22) C dX0_put_4 (by decide) (fun _ => ?_) (fun _ => ?_)
  · refine x_aload_n C dX0_put_22 rfl ?_
    refine u_callV (st := []) C Y hW E.cs (r_isLongFrame hW R) md_X5_isLongFrame wi_X5_isLongFrame ws_X5_isLongFrame wm_X0_47 dX0_put_23 rfl (by decide) (by decide) R.2.1 rfl rfl (by decide) ?_
    refine x_if_eq (tgt := 55) C dX0_put_26 (by decide) (fun _ => T55) (fun _ => ?_)
    refine x_aload_n C dX0_put_29 rfl ?_
    refine x_iconst (v := 4) C dX0_put_30 (by decide) ?_
    refine kat (st := []) R _ dX0_put_31 (by decide) ?_
    refine x_bipush (v := 83) C dX0_put_34 (by decide) ?_
    refine x_icmp_eq (tgt := 49) C dX0_put_36 (by decide) (fun _ => T49) (fun _ => ?_)
    refine x_aload_n C dX0_put_39 rfl ?_
    refine x_iconst (v := 4) C dX0_put_40 (by decide) ?_
    refine kat (st := []) R _ dX0_put_41 (by decide) ?_
    refine x_bipush (v := 115) C dX0_put_44 (by decide) ?_
    exact x_icmp_ne (tgt := 55) C dX0_put_46 (by decide) (fun _ => T55) (fun _ => T49)
  · refine x_aload_n C dX0_put_7 rfl ?_
    refine x_aload_n C dX0_put_8 rfl ?_
    refine x_iconst (v := 1) C dX0_put_9 (by decide) ?_
    refine kat (st := [.ref u]) R _ dX0_put_10 (by simp [Value.category]) ?_
    refine x_aload_n C dX0_put_13 rfl ?_
    refine x_iconst (v := 2) C dX0_put_14 (by decide) ?_
    refine kat (st := [_, .ref u]) R _ dX0_put_15 (by simp [Value.category]) ?_
    refine k_callR (kc := 0) (ks := 0) (mc' := 0) (ms' := 0) (st := []) C Y hW E.cs (u_putShort hX _ _) D md_X0_putShort wi_X0_putShort ws_X0_putShort wm_X0_43 dX0_put_18 rfl (by decide) (by decide) B rfl rfl (by decide) (fun r g hg => ?_)
    obtain ⟨⟨v, rfl⟩, Dg⟩ := hg
    exact x_iret C E dX0_put_21 (fun q e => by subst e; exact ⟨⟨_, rfl⟩, Dg⟩)
end Frames
end Bus
end
section
/-! Bus: its meters looked up, plugged in; a new Meter told whole. -/
def pgE (c : Nat → ClassId) : va_E := .inl (c 0, 60, .inl (fun _ => 0))
def ouE (c : Nat → ClassId) (r : Nat → Nat) : va_E := .inl (c 5, 3, .inr (.inr (.inr (.inr (fun i => if i < 3 then some (r i) else none)))))
def mna3 (c : Nat → ClassId) (h : PH) (q : Nat) (r : Nat → Nat) : PH := fun a => if a = q then some (ouE c r) else if a ∈ (List.range 3).map r then some (pgE c) else h a
section Rows
variable {z : Fx} {own : String} {cc : ByteArray} {kc ks pc : Nat} {L : List (Option Value)} {st : List Value} {c : Nat → ClassId} {h : PH}
theorem e_mna3 (C : Cx z own cc gw) (Y : Cty z c) {index t5 : Nat} (h5 : z.tys[t5]? = some (c 5, .array .int)) (ho : va_AOA .int z.s) (wl : Cond.classLink own index "[[I" ∈ gw) (d : decode cc pc = .ok (.multianewarray index 2, 4))
    (kk : ∀ (q : Nat) (r : Nat → Nat), h q = none → (∀ i, i < 3 → h (r i) = none ∧ r i ≠ q) → (∀ i j, i < 3 → j < 3 → r i = r j → i = j) → X z kc ks (EQ (mna3 c h q r)) (pc + 4) L (.ref q :: st)) : X z (kc + 4) (ks + 183) (EQ h) pc L (.int 60 :: .int 3 :: st) := by
  intro H locs ls cells slots ⟨g, hA, LP, f, q1, q2, q3⟩ hS hl c1 c2
  subst hA
  have r1 := C.rc
  have r2 := C.rs
  obtain ⟨t0, ht0⟩ := Y.2.1
  have hcy : z.s.vm.findClass (FieldType.array .int).toString = some (c 0) := va_nm_int (C.K.2 t0 _ ht0).2
  refine va_mna (X := []) (L := LP) (f := f) (ty := .int) (cy := c 0) (N' := 3) (K' := 60) (z := (60, .inl (fun _ => 0))) C.x C.b C.ow (C.ts _ wl) ho (C.ts _ wa_int) hcy C.K q2 q3 hS C.fr (by decide) (by decide) (by decide) (by decide) (by omega) (by show 60 * 4 ≤ 536870912; omega) (by omega) rfl rfl (by omega) (by omega) (fun cB => by rw [vp_cell_i]; exact arrV_new ..) d (fun q r cA H1 hi hf hK1 hP1 hD1 hS1 => ?_)
  have hcA : cA = c 5 := by
    have e1 : z.s.vm.findClass ("[" ++ (FieldType.array .int).toString) = some cA := (hK1.2 z.tys.length (cA, .array .int) (by rw [List.getElem?_append_right (Nat.le_refl _), Nat.sub_self]; rfl)).2
    have e2 : z.s.vm.findClass ("[" ++ (FieldType.array .int).toString) = some (c 5) := (C.K.2 t5 _ h5).2
    exact Option.some.inj (e1.symm.trans e2)
  subst hcA
  have hq : q ∉ LP ++ (List.range 3).map r := fun m => by
    obtain ⟨k, hk⟩ := va_pl_get (X := []) (f := vr_up f ((List.range 3).map r) (.inl (c 0, 60, .inl (fun _ => 0)))) m
    have := hD1.1 0 (k + 1) _ _ rfl hk rfl
    omega
  have hl2 : va_pl (q :: (LP ++ (List.range 3).map r)) (va_up (vr_up f ((List.range 3).map r) (pgE c)) q (ouE c r)) = (q, ouE c r) :: va_pl (LP ++ (List.range 3).map r) (vr_up f ((List.range 3).map r) (pgE c)) := by
    unfold va_pl
    rw [List.map_cons, va_up_self]
    refine congrArg _ (List.map_congr_left fun a ha => ?_)
    exact Prod.ext rfl (va_up_ne _ _ (fun e : a = q => hq (by rw [← e]; exact ha)))
  refine kk q r ?_ (fun i hi3 => ⟨?_, fun e => hq (List.mem_append_right _ (List.mem_map.mpr ⟨i, List.mem_range.mpr hi3, e⟩))⟩) hi H1 locs ls (cells + 1 + 3) (slots + 3 + 3 * 60) ⟨_, rfl, q :: (LP ++ (List.range 3).map r), va_up (vr_up f ((List.range 3).map r) (pgE c)) q (ouE c r), fun a e ge => ?_, by rw [hl2]; exact hP1, by rw [hl2]; exact hD1⟩ hS1 hl (by omega) (by omega)
  · cases e : g q with
    | none => rfl
    | some x => exact absurd (List.mem_append_left _ (q1 q x e).1) hq
  · cases e : g (r i) with
    | none => rfl
    | some x => exact absurd (q1 _ x e).1 (hf i hi3)
  · unfold mna3 at ge
    by_cases e1 : a = q
    · subst e1
      rw [if_pos rfl] at ge
      exact ⟨List.mem_cons_self .., by rw [va_up_self]; exact Option.some.inj ge⟩
    · rw [if_neg e1] at ge
      rw [va_up_ne _ _ e1]
      by_cases e2 : a ∈ (List.range 3).map r
      · rw [if_pos e2] at ge
        exact ⟨List.mem_cons_of_mem _ (List.mem_append_right _ e2), by rw [vr_up_in e2]; exact Option.some.inj ge⟩
      · rw [if_neg e2] at ge
        obtain ⟨g1, g2⟩ := q1 a e ge
        exact ⟨List.mem_cons_of_mem _ (List.mem_append_left _ g1), by rw [vr_up_ne e2]; exact g2⟩
end Rows
/-- a new Meter at p, made over h -/
def MN (c : Nat → ClassId) (h : PH) (p : Nat) (ad : Int64) (pr : Int32) (g : PH) : Prop := ∃ (q ps : Nat) (r : Nat → Nat), g p = some (mF ad pr 0 q ps (-1) (-1) 0) ∧ g q = some (ouE c r) ∧ g ps = some (.inl (c 0, 3, .inl (fun _ => 0))) ∧ (∀ i, i < 3 → g (r i) = some (pgE c)) ∧ (h p ≠ none ∧ h q = none ∧ h ps = none ∧ ∀ i, i < 3 → h (r i) = none) ∧ (∀ a, a ≠ p → h a ≠ none → g a = h a) ∧ ∀ i j, i < 3 → j < 3 → r i = r j → i = j
section Make
variable {w : Wd} {c : Nat → ClassId} {p : Nat} {h : PH}
theorem n_meter (hX : Wx w c) (hp : h p = some (.inr (2, [.long 0, .int 0, .int 0, .null, .null, .int 0, .int 0, .int 0]))) (pr : Int32) (ad : Int64) : T w gw yX2_init cX2_init 4 none 1 (40 * 1) 5 186 [.ref p, .int pr, .long ad] (EQ h) (fun r g => r = none ∧ MN c h p ad pr g) := by
  refine TA.intro hX.1 rfl (by decide +kernel) (Nat.le_of_ble_eq_true rfl) (fun z C Y E hn h1 hA => ?_)
  rw [show h1 = h from hA]
  clear hA
  obtain ⟨t5, h5⟩ : ∃ t : Nat, z.tys[t]? = some (c 5, .array .int) := by rw [E.cs.2.2.2.1]; exact hX.2.2.2.2.2
  refine x_aload_n C dX2_init_0 rfl ?_
  refine x_objInit C wm_X2_3 dX2_init_1 (by rw [E.fr_]; decide) (by rw [E.lo_]; decide) ?_
  refine x_aload_n C dX2_init_4 rfl ?_
  refine x_iconst (v := 0) C dX2_init_5 (by decide) ?_
  refine e_put C Y kd_X2 2 (by decide) rfl wf_X2_9 dX2_init_6 hp (Nat.le_of_ble_eq_true rfl) (by decide) (by decide) rfl ?_
  refine x_aload_n C dX2_init_9 rfl ?_
  refine x_iconst (v := 3) C dX2_init_10 (by decide) ?_
  refine x_bipush (v := 60) C dX2_init_11 (by decide) ?_
  refine e_mna3 (kc := 1) (ks := 3) C Y h5 (E.cs.gx hX).2.2.2.2.2.2.2.2 wc_X2_15 dX2_init_13 (fun q r hq hr hri => ?_)
  generalize hh2 : mna3 c _ q r = h2
  have pq : p ≠ q := fun e => by rw [← e, hs_self] at hq; exact nomatch hq
  have pr_ : ∀ i, i < 3 → r i ≠ p := fun i hi e => by have := (hr i hi).1; rw [e, hs_self] at this; exact nomatch this
  have fq : h q = none := by rw [← hq, hs_ne (Ne.symm pq)]
  have fr : ∀ i, i < 3 → h (r i) = none := fun i hi => by rw [← (hr i hi).1, hs_ne (pr_ i hi)]
  have H0 : h2 p = some (.inr (2, [.long 0, .int 0, .int 0, .null, .null, .int 0, .int 0, .int 0])) := by
    rw [← hh2]; unfold mna3
    rw [if_neg pq, if_neg (fun m => by obtain ⟨i, mi, e⟩ := List.mem_map.mp m; exact pr_ i (List.mem_range.mp mi) e), hs_self]
    rfl
  have H1 : h2 q = some (ouE c r) := by rw [← hh2]; unfold mna3; rw [if_pos rfl]
  have H2 : ∀ i, i < 3 → h2 (r i) = some (pgE c) := fun i hi => by rw [← hh2]; unfold mna3; rw [if_neg (hr i hi).2, if_pos (List.mem_map.mpr ⟨i, List.mem_range.mpr hi, rfl⟩)]
  have H3 : ∀ a, a ≠ p → h a ≠ none → h2 a = h a := fun a n1 n2 => by
    rw [← hh2]; unfold mna3
    rw [if_neg (fun e => n2 (by rw [e]; exact fq)), if_neg (fun m => by obtain ⟨i, mi, e⟩ := List.mem_map.mp m; exact n2 (by rw [← e]; exact fr i (List.mem_range.mp mi))), hs_ne n1]
  have H5 : ∀ a, h2 a = none → h a = none := fun a e => by
    by_cases e1 : a = p
    · subst e1; rw [H0] at e; exact nomatch e
    · cases e2 : h a with
      | none => rfl
      | some x => rw [H3 a e1 (by rw [e2]; exact fun q => nomatch q), e2] at e; exact nomatch e
  refine e_putF C Y E.nm kd_X2 3 (by decide) rfl rfl wf_X2_17 dX2_init_17 H0 (Nat.le_of_ble_eq_true rfl) rfl rfl ?_
  refine x_aload_n C dX2_init_20 rfl ?_
  refine x_iconst (v := 3) C dX2_init_21 (by decide) ?_
  refine e_newi (kc := 0) (ks := 0) (N := 3) C Y dX2_init_22 (by decide) (by decide) (by decide) (fun ps hps => ?_)
  have psp : ps ≠ p := fun e => by rw [e, hs_self] at hps; exact nomatch hps
  rw [hs_ne psp] at hps
  refine e_putF C Y E.nm kd_X2 4 (by decide) rfl rfl wf_X2_20 dX2_init_24 ((hs_ne (Ne.symm psp)).trans (hs_self ..)) (Nat.le_of_ble_eq_true rfl) rfl rfl ?_
  refine x_aload_n C dX2_init_27 rfl ?_
  refine x_iconst (v := -1) C dX2_init_28 (by decide) ?_
  refine e_put C Y kd_X2 5 (by decide) rfl wf_X2_24 dX2_init_29 (hs_self ..) (Nat.le_of_ble_eq_true rfl) rfl rfl rfl ?_
  refine x_aload_n C dX2_init_32 rfl ?_
  refine x_iconst (v := -1) C dX2_init_33 (by decide) ?_
  refine e_put C Y kd_X2 6 (by decide) rfl wf_X2_28 dX2_init_34 (hs_self ..) (Nat.le_of_ble_eq_true rfl) rfl rfl rfl ?_
  refine x_aload_n C dX2_init_37 rfl ?_
  refine x_iconst (v := 0) C dX2_init_38 (by decide) ?_
  refine e_put C Y kd_X2 7 (by decide) rfl wf_X2_31 dX2_init_39 (hs_self ..) (Nat.le_of_ble_eq_true rfl) rfl rfl rfl ?_
  refine x_aload_n C dX2_init_42 rfl ?_
  refine x_iload_n C dX2_init_43 rfl ?_
  refine e_put C Y kd_X2 1 (by decide) rfl wf_X2_34 dX2_init_44 (hs_self ..) (Nat.le_of_ble_eq_true rfl) rfl rfl rfl ?_
  refine x_aload_n C dX2_init_47 rfl ?_
  refine x_lload_n C dX2_init_48 rfl ?_
  refine e_putF C Y E.nm kd_X2 0 (by decide) rfl rfl wf_X2_37 dX2_init_49 (hs_self ..) (Nat.le_of_ble_eq_true rfl) rfl rfl ?_
  refine x_vret C E dX2_init_52 (fun g e => ?_)
  subst e
  have nn : ∀ {a : Nat} {e : va_E}, h2 a = some e → a ≠ ps := fun g e => by rw [e, hps] at g; exact nomatch g
  have hx : ∀ a, a ≠ p → a ≠ ps → ∀ (e1 e2 e3 e4 e5 e6 e7 e8 : va_E), hs (hs (hs (hs (hs (hs (hs (hs h2 p e1) ps e2) p e3) p e4) p e5) p e6) p e7) p e8 a = h2 a := fun a n1 n2 e1 e2 e3 e4 e5 e6 e7 e8 => by rw [hs_ne n1, hs_ne n1, hs_ne n1, hs_ne n1, hs_ne n1, hs_ne n1, hs_ne n2, hs_ne n1]
  refine ⟨rfl, q, ps, r, hs_self .., (hx q (Ne.symm pq) (nn H1) _ _ _ _ _ _ _ _).trans H1, ?_, fun i hi => (hx _ (pr_ i hi) (nn (H2 i hi)) _ _ _ _ _ _ _ _).trans (H2 i hi), ⟨by rw [hp]; exact (fun q => nomatch q), fq, H5 _ hps, fr⟩, fun a n1 n2 => ?_, hri⟩
  · rw [hs_ne psp, hs_ne psp, hs_ne psp, hs_ne psp, hs_ne psp, hs_ne psp, hs_self]
  · exact (hx a n1 (fun e => n2 (by rw [e]; exact H5 _ hps)) _ _ _ _ _ _ _ _).trans (H3 a n1 n2)
end Make
end
section
/-! Bus: who is there; a new Meter taken up. -/
/-- the meter of a number, where it is one -/
def fk (f : Nat → Option Nat) (k : Int32) : Option Nat := if k < 0 ∨ 12 ≤ k then none else f k.toNatClampNeg
theorem fk_nI (f : Nat → Option Nat) {j : Nat} (hj : j < 12) : fk f (nI j) = f j := by
  unfold fk
  rw [if_neg (fun q => q.elim (nI_pos (by omega)) (Int32.not_le.mpr (nI_lt hj (by decide)))), nI_clamp (by omega)]
section Own
variable {c : Nat → ClassId} {u ma an aa n : Nat} {h0 h g : PH} {W : Nat → Prop} {α : Nat → Int64} {f : Nat → Option Nat} {κ : Nat → Nat}
theorem OKm.some {q k : Nat} {o : Option va_E} (g : OKm c κ α q k o) (n : k ≠ 0) : o ≠ none := by
  unfold OKm at g
  split at g
  · exact absurd rfl n
  all_goals (obtain ⟨e, e1⟩ := g; intro e2; rw [e2] at e1)
  · exact nomatch e1.1
  · exact nomatch e1.1
  · exact nomatch e1
  · exact nomatch e1
theorem BN.plug (D : BN c u ma an aa h0 W α f κ n h) {f' : Nat → Option Nat} (hf : ∀ k m, f' k = some m → κ m = 1) : BN c u ma an aa h0 W α f' κ n (hs h ma (zM c f')) := by
  obtain ⟨D1, D2, D3, ⟨g, ⟨r1, r2, r3, r4⟩, g2⟩, D5, ⟨l1, l2, l3, l4, l5, l6, l7, l8, l9⟩, D7⟩ := D
  refine ⟨by rw [hs_ne l5]; exact D1, hs_self .., hf, ⟨g, ⟨r1, by rw [hs_ne (Ne.symm l8)]; exact r2, by rw [hs_ne (Ne.symm l9)]; exact r3, r4⟩, g2⟩, fun x => ?_, ⟨l1, l2, l3, l4, l5, l6, l7, l8, l9⟩, fun x hx => ?_⟩
  · by_cases e1 : x = ma
    · subst e1; rw [l2]; trivial
    · rw [hs_ne e1]; exact D5 x
  · obtain ⟨x1, x2, x3, x4, x5, x6, x7⟩ := D7 x hx
    exact ⟨x1, x2, x3, x4, x5, x6, by rw [hs_ne x3]; exact x7⟩
/-- a new Meter at p is one of the bus's own -/
theorem BN.meter (D : BN c u ma an aa h0 W α f κ n h) {p : Nat} (hp : h p = none) {e : va_E} {ad : Int64} {pr : Int32} (M : MN c (hs h p e) p ad pr g) : ∃ κ', BN c u ma an aa h0 W (va_up α p ad) f κ' n g ∧ κ' p = 1 ∧ (∀ q, κ q ≠ 0 → κ' q = κ q) ∧ ∀ q, κ' q ≠ 0 → κ q ≠ 0 ∨ h q = none := by
  obtain ⟨D1, D2, D3, ⟨gr, ⟨r1, r2, r3, r4⟩, g2⟩, D5, ⟨l1, l2, l3, l4, l5⟩, D7⟩ := D
  obtain ⟨q, ps, r, m1, m2, m3, m4, ⟨m5, m6, m7, m8⟩, m9, -⟩ := M
  have qp : q ≠ p := fun e => by rw [e, hs_self] at m6; exact nomatch m6
  have sp : ps ≠ p := fun e => by rw [e, hs_self] at m7; exact nomatch m7
  have rp : ∀ i, i < 3 → r i ≠ p := fun i hi e => by have := m8 i hi; rw [e, hs_self] at this; exact nomatch this
  rw [hs_ne qp] at m6
  rw [hs_ne sp] at m7
  have m8' : ∀ i, i < 3 → h (r i) = none := fun i hi => by have := m8 i hi; rw [hs_ne (rp i hi)] at this; exact this
  have sq : ps ≠ q := fun e => by rw [e, m2] at m3; simp [ouE] at m3
  have rq : ∀ i, i < 3 → r i ≠ q := fun i hi e => by have := m4 i hi; rw [e, m2] at this; simp [ouE, pgE] at this
  have rs : ∀ i, i < 3 → r i ≠ ps := fun i hi e => by have := m4 i hi; rw [e, m3] at this; cases this
  have old : ∀ a, h a ≠ none → g a = h a := fun a n1 => by
    have ap : a ≠ p := fun e => n1 (by rw [e]; exact hp)
    rw [m9 a ap (by rw [hs_ne ap]; exact n1), hs_ne ap]
  let κ' : Nat → Nat := fun x => if x = p then 1 else if x = q then 2 else if x = ps then 4 else if x ∈ (List.range 3).map r then 3 else κ x
  have k1 : κ' p = 1 := if_pos rfl
  have k2 : κ' q = 2 := by show (if q = p then 1 else _) = 2; rw [if_neg qp, if_pos rfl]
  have k4 : κ' ps = 4 := by show (if ps = p then 1 else _) = 4; rw [if_neg sp, if_neg sq, if_pos rfl]
  have k3 : ∀ i, i < 3 → κ' (r i) = 3 := fun i hi => by show (if r i = p then 1 else _) = 3; rw [if_neg (rp i hi), if_neg (rq i hi), if_neg (rs i hi), if_pos (List.mem_map.mpr ⟨i, List.mem_range.mpr hi, rfl⟩)]
  have fr3 : ∀ {x : Nat}, x ∈ (List.range 3).map r → h x = none := fun m => by obtain ⟨i, mi, e⟩ := List.mem_map.mp m; rw [← e]; exact m8' i (List.mem_range.mp mi)
  have k5 : ∀ x, h x ≠ none → κ' x = κ x := fun x nx => by
    show (if x = p then 1 else _) = κ x
    rw [if_neg (fun e => nx (by rw [e]; exact hp)), if_neg (fun e => nx (by rw [e]; exact m6)), if_neg (fun e => nx (by rw [e]; exact m7)), if_neg (fun m => nx (fr3 m))]
  have k6 : ∀ x, κ x ≠ 0 → h x ≠ none := fun x nx => (D5 x).some nx
  have k7 : ∀ x, κ x ≠ 0 → κ' x = κ x := fun x nx => k5 x (k6 x nx)
  have nn : ∀ {x : Nat} {e : va_E}, h x = Option.some e → h x ≠ none := fun e1 e2 => by rw [e1] at e2; exact nomatch e2
  obtain ⟨fr, co, D1⟩ := D1
  refine ⟨κ', ⟨⟨fr, co, by rw [old u (nn D1)]; exact D1⟩, by rw [old ma (nn D2)]; exact D2, fun k m e => by rw [k7 m (by rw [D3 k m e]; decide)]; exact D3 k m e, ⟨gr, ⟨r1, by rw [old an (nn r2)]; exact r2, by rw [old aa (nn r3)]; exact r3, r4⟩, g2⟩, fun x => ?_, ⟨by rw [k5 u (nn D1)]; exact l1, by rw [k5 ma (nn D2)]; exact l2, by rw [k5 an (nn r2)]; exact l3, by rw [k5 aa (nn r3)]; exact l4, l5⟩, fun x hx => ?_⟩, k1, k7, fun x nx => ?_⟩
  · by_cases e1 : x = p
    · subst e1
      rw [k1, m1]
      exact ⟨_, rfl, pr, 0, -1, -1, 0, q, ps, by rw [va_up_self], k2, k4, Or.inl rfl⟩
    by_cases e2 : x = q
    · subst e2
      rw [k2, m2]
      exact ⟨_, rfl, fun i hi => ⟨r i, if_pos hi, k3 i hi⟩⟩
    by_cases e3 : x = ps
    · subst e3
      rw [k4, m3]
      exact ⟨_, rfl⟩
    by_cases e4 : x ∈ (List.range 3).map r
    · obtain ⟨i, mi, e⟩ := List.mem_map.mp e4
      have hi := List.mem_range.mp mi
      subst e
      rw [k3 i hi, m4 i hi]
      exact ⟨_, rfl⟩
    have kx : κ' x = κ x := by show (if x = p then 1 else _) = κ x; rw [if_neg e1, if_neg e2, if_neg e3, if_neg e4]
    by_cases e5 : κ x = 0
    · rw [kx, e5]; trivial
    rw [kx, old x (k6 x e5)]
    have ok := D5 x
    generalize κ x = kk at ok e5
    unfold OKm at ok ⊢
    split at ok
    · trivial
    · obtain ⟨e, e6, pr1, se, pt, bt, ac, pg, sz, e7, e8, e9, e10⟩ := ok
      exact ⟨e, e6, pr1, se, pt, bt, ac, pg, sz, by rw [va_up_ne _ _ e1]; exact e7, by rw [k7 pg (by omega)]; exact e8, by rw [k7 sz (by omega)]; exact e9, e10⟩
    · obtain ⟨g9, e6, e7⟩ := ok
      refine ⟨g9, e6, fun i hi => ?_⟩
      obtain ⟨t, t1, t2⟩ := e7 i hi
      exact ⟨t, t1, by rw [k7 t (by omega)]; exact t2⟩
    · exact ok
    · exact ok
  · obtain ⟨x1, x2, x3, x4, x5, x6, x7⟩ := D7 x hx
    have nx : h x ≠ none := by rw [x7]; exact x6
    exact ⟨by rw [k5 x nx]; exact x1, x2, x3, x4, x5, x6, by rw [old x nx]; exact x7⟩
  · by_cases e5 : κ x = 0
    · right
      cases e6 : h x with
      | none => rfl
      | some e => exact absurd (by rw [k5 x (by rw [e6]; exact (fun q => nomatch q)), e5]) nx
    · exact Or.inl e5
end Own
section Bus
variable {w : Wd} {c : Nat → ClassId} {u ma an aa n m : Nat} {h0 h : PH} {W : Nat → Prop} {α : Nat → Int64} {f : Nat → Option Nat} {κ : Nat → Nat}
theorem u_meterAt (hX : Wx w c) (D : BX c u ma an aa h0 W α f κ h) (k : Int32) : TC w yX0_meterAt cX0_meterAt 2 (some (.object "MeterBus$Meter")) 0 [.ref u, .int k] h (some (va_rf (fk f k))) h := by
  obtain ⟨fr, co, B⟩ := D.uc
  refine TC.intro hX.1 rfl (by decide +kernel) (Nat.le_of_ble_eq_true rfl) (fun z C Y E hn => ?_)
  have T19 : fk f k = none → X z 0 0 (EQ h) 19 [some (.ref u), some (.int k)] [] := fun e => x_null C dX0_meterAt_19 (e_aret C E (Or.inl ⟨_, rfl⟩) dX0_meterAt_20 (Or.inl rfl) (by rw [e]; rfl) rfl)
  refine x_iload_n C dX0_meterAt_0 rfl ?_
  refine x_if_lt (tgt := 19) C dX0_meterAt_1 (by decide) (fun c1 => T19 (if_pos (Or.inl c1))) (fun c1 => ?_)
  refine x_iload_n C dX0_meterAt_4 rfl ?_
  refine x_bipush (v := 12) C dX0_meterAt_5 (by decide) ?_
  refine x_icmp_ge (tgt := 19) C dX0_meterAt_7 (by decide) (fun c2 => T19 (if_pos (Or.inr c2))) (fun c2 => ?_)
  obtain ⟨j, hj, rfl⟩ := nI_of c1
  have hj2 : j < 12 := (nI_ltI hj (by decide)).mp (Int32.not_le.mp c2)
  refine x_aload_n C dX0_meterAt_10 rfl ?_
  refine e_get C Y kd_X0 0 (by decide) wf_X0_11 dX0_meterAt_11 B rfl ?_
  refine x_iload_n C dX0_meterAt_14 rfl ?_
  refine k_meter hX C E.cs D hj2 dX0_meterAt_15 (fun e => ?_) (fun m e _ => ?_)
  · refine x_goto (tgt := 20) C dX0_meterAt_16 (by decide) ?_
    exact e_aret C E (Or.inl ⟨_, rfl⟩) dX0_meterAt_20 (Or.inl rfl) (by rw [fk_nI f hj2, e]; rfl) rfl
  · refine x_goto (tgt := 20) C dX0_meterAt_16 (by decide) ?_
    exact e_aret C E (Or.inl ⟨_, rfl⟩) dX0_meterAt_20 (Or.inr ⟨_, rfl⟩) (by rw [fk_nI f hj2, e]; rfl) rfl
theorem u_plugN (hX : Wx w c) (D : BX c u ma an aa h0 W α f κ h) {j : Nat} (hj : j < 12) : TC w yX0_plug cX0_plug 3 none 0 [.ref u, .int (nI j), .null] h none (hs h ma (zM c (va_up f j none))) := by
  obtain ⟨fr, co, B⟩ := D.uc
  obtain ⟨n, n90, Dn⟩ := D
  refine TC.intro hX.1 rfl (by decide +kernel) (Nat.le_of_ble_eq_true rfl) (fun z C Y E hn => ?_)
  obtain ⟨t, ht⟩ := hX.tM E.cs
  refine x_iload_n C dX0_plug_0 rfl ?_
  refine x_if_lt (tgt := 17) C dX0_plug_1 (by decide) (fun c1 => absurd c1 (nI_pos (by omega))) (fun c1 => ?_)
  refine x_iload_n C dX0_plug_4 rfl ?_
  refine x_bipush (v := 12) C dX0_plug_5 (by decide) ?_
  refine x_icmp_ge (tgt := 17) C dX0_plug_7 (by decide) (fun c2 => absurd c2 (Int32.not_le.mpr (nI_lt hj (by decide)))) (fun c2 => ?_)
  refine x_aload_n C dX0_plug_10 rfl ?_
  refine e_get C Y kd_X0 0 (by decide) wf_X0_11 dX0_plug_11 B rfl ?_
  refine x_iload_n C dX0_plug_14 rfl ?_
  refine x_aload_nN C dX0_plug_15 rfl ?_
  refine e_astN C ht dX0_plug_16 Dn.2.1 rfl hj (by decide) ?_
  exact e_vret C E dX0_plug_17 rfl rfl
theorem u_plug (hX : Wx w c) (D : BX c u ma an aa h0 W α f κ h) {j : Nat} (hj : j < 12) {vs : List Value} (hv : h m = some (.inr (2, vs))) : TC w yX0_plug cX0_plug 3 none 0 [.ref u, .int (nI j), .ref m] h none (hs h ma (zM c (va_up f j (some m)))) := by
  obtain ⟨fr, co, B⟩ := D.uc
  obtain ⟨n, n90, Dn⟩ := D
  refine TC.intro hX.1 rfl (by decide +kernel) (Nat.le_of_ble_eq_true rfl) (fun z C Y E hn => ?_)
  obtain ⟨t, ht⟩ := hX.tM E.cs
  refine x_iload_n C dX0_plug_0 rfl ?_
  refine x_if_lt (tgt := 17) C dX0_plug_1 (by decide) (fun c1 => absurd c1 (nI_pos (by omega))) (fun c1 => ?_)
  refine x_iload_n C dX0_plug_4 rfl ?_
  refine x_bipush (v := 12) C dX0_plug_5 (by decide) ?_
  refine x_icmp_ge (tgt := 17) C dX0_plug_7 (by decide) (fun c2 => absurd c2 (Int32.not_le.mpr (nI_lt hj (by decide)))) (fun c2 => ?_)
  refine x_aload_n C dX0_plug_10 rfl ?_
  refine e_get C Y kd_X0 0 (by decide) wf_X0_11 dX0_plug_11 B rfl ?_
  refine x_iload_n C dX0_plug_14 rfl ?_
  refine x_aload_n C dX0_plug_15 rfl ?_
  refine e_ast (rr := (RX2, TX2, 8)) C Y ht rfl dX0_plug_16 Dn.2.1 rfl hj (by decide) hv ?_
  exact e_vret C E dX0_plug_17 rfl rfl
/-- another meter has that address -/
def oth (f : Nat → Option Nat) (α : Nat → Int64) (k : Int32) (a : Int64) : Prop := ∃ j m, j < 12 ∧ nI j ≠ k ∧ f j = some m ∧ α m = a
theorem u_hasAnother (hX : Wx w c) (D : BX c u ma an aa h0 W α f κ h) (k : Int32) (a : Int64) : T w gw yX0_hasAnother cX0_hasAnother 5 (some .boolean) 1 (40 * 1) 0 0 [.ref u, .int k, .long a] (EQ h) (fun r g => g = h ∧ ((r = some (.int 1) ∧ oth f α k a) ∨ (r = some (.int 0) ∧ ¬ oth f α k a))) := by
  obtain ⟨fr, co, B⟩ := D.uc
  refine TA.intro hX.1 rfl (by decide +kernel) (Nat.le_of_ble_eq_true rfl) (fun z C Y E hn h1 hA => ?_)
  rw [show h1 = h from hA]
  clear hA
  have LP : ∀ (t k9 : Nat), k9 + t = 12 → (∀ j m, j < k9 → nI j ≠ k → f j = some m → α m ≠ a) → X z 0 0 (EQ h) 3 [some (.ref u), some (.int k), some (.long a), none, some (.int (nI k9))] [] := by
    intro t
    induction t with
    | zero =>
      intro k9 hk no
      obtain rfl : k9 = 12 := by omega
      refine x_iload C dX0_hasAnother_3 rfl ?_
      refine x_bipush (v := 12) C dX0_hasAnother_5 (by decide) ?_
      refine x_icmp_ge (tgt := 48) C dX0_hasAnother_7 (by decide) (fun _ => ?_) (fun c7 => absurd (Int32.le_refl _) c7)
      refine x_iconst (v := 0) C dX0_hasAnother_48 (by decide) ?_
      exact x_zret C E dX0_hasAnother_49 (by decide) (fun q e => ⟨e, Or.inr ⟨rfl, fun ⟨j, m, o1, o2, o3, o4⟩ => no j m o1 o2 o3 o4⟩⟩)
    | succ t ih =>
      intro k9 hk no
      have T42 : (∀ m, nI k9 ≠ k → f k9 = some m → α m ≠ a) → X z 0 0 (EQ h) 42 [some (.ref u), some (.int k), some (.long a), none, some (.int (nI k9))] [] := fun no9 => by
        refine o_iincE (v := nI (k9 + 1)) (L' := [some _, some _, some _, none, some _]) C dX0_hasAnother_42 rfl (nI_1 k9) (by rw [hn]; decide) rfl ?_
        refine x_goto (tgt := 3) C dX0_hasAnother_45 (by decide) ?_
        refine ih (k9 + 1) (by omega) (fun j m h1 h2 h3 => ?_)
        by_cases e : j = k9
        · subst e; exact no9 m h2 h3
        · exact no j m (by omega) h2 h3
      refine x_iload C dX0_hasAnother_3 rfl ?_
      refine x_bipush (v := 12) C dX0_hasAnother_5 (by decide) ?_
      refine x_icmp_ge (tgt := 48) C dX0_hasAnother_7 (by decide) (fun c7 => absurd c7 (Int32.not_le.mpr (nI_lt (show k9 < 12 by omega) (by decide)))) (fun c7 => ?_)
      refine x_iload C dX0_hasAnother_10 rfl ?_
      refine x_iload_n C dX0_hasAnother_12 rfl ?_
      refine x_icmp_eq (tgt := 42) C dX0_hasAnother_13 (by decide) (fun e => T42 (fun m n9 => absurd e n9)) (fun n9 => ?_)
      refine x_aload_n C dX0_hasAnother_16 rfl ?_
      refine e_get C Y kd_X0 0 (by decide) wf_X0_11 dX0_hasAnother_17 B rfl ?_
      refine x_iload C dX0_hasAnother_20 rfl ?_
      refine k_meter hX C E.cs D (show k9 < 12 by omega) dX0_hasAnother_22 (fun e => ?_) (fun m e hm => ?_)
      · exact x_ifnullN (tgt := 42) C dX0_hasAnother_23 (by decide) (T42 (fun m _ e2 => by rw [e] at e2; exact nomatch e2))
      · refine x_ifnull C dX0_hasAnother_23 ?_
        refine x_aload_n C dX0_hasAnother_26 rfl ?_
        refine e_get C Y kd_X0 0 (by decide) wf_X0_11 dX0_hasAnother_27 B rfl ?_
        refine x_iload C dX0_hasAnother_30 rfl ?_
        refine k_meter hX C E.cs D (show k9 < 12 by omega) dX0_hasAnother_32 (fun e2 => by rw [e] at e2; exact nomatch e2) (fun m2 e2 _ => ?_)
        obtain rfl : m = m2 := by rw [e] at e2; exact Option.some.inj e2
        refine x_lload_n C dX0_hasAnother_33 rfl ?_
        obtain ⟨n, n90, Dn⟩ := D
        obtain ⟨pr, se, pt, bt, ac, pg, sz, R, -⟩ := Dn.me hm
        refine u_callV (st := []) C Y hX.1 E.cs (t_hasAddress hX.1 R a) md_X2_hasAddress wi_X2_hasAddress ws_X2_hasAddress wm_X0_31 dX0_hasAnother_34 rfl (by decide) (by decide) R rfl rfl (by decide) ?_
        by_cases ea : α m = a
        · rw [show bI (α m = a) = 1 from if_pos ea]
          refine x_if_eq (tgt := 42) C dX0_hasAnother_37 (by decide) (fun q => absurd q (by decide)) (fun _ => ?_)
          refine x_iconst (v := 1) C dX0_hasAnother_40 (by decide) ?_
          exact x_zret C E dX0_hasAnother_41 (by decide) (fun q e9 => ⟨e9, Or.inl ⟨rfl, k9, m, by omega, n9, e, ea⟩⟩)
        · rw [show bI (α m = a) = 0 from if_neg ea]
          refine x_if_eq (tgt := 42) C dX0_hasAnother_37 (by decide) (fun _ => ?_) (fun q => absurd rfl q)
          exact T42 (fun m2 _ e2 => by rw [e] at e2; cases e2; exact ea)
  refine x_iconst (v := 0) C dX0_hasAnother_0 (by decide) ?_
  refine o_istoreE (L' := [some _, some _, some _, none, some _]) C dX0_hasAnother_1 (by rw [hn]; decide) rfl ?_
  exact LP 12 0 rfl (fun j m q => absurd q (by omega))
theorem u_meterNumber (hX : Wx w c) (D : BX c u ma an aa h0 W α f κ h) : T w gw yX0_meterNumber cX0_meterNumber 3 (some .int) 0 (40 * 0) 0 0 [.ref u] (EQ h) (fun r g => g = h ∧ ∃ v, r = some (.int v)) := by
  obtain ⟨fr, co, B⟩ := D.uc
  refine TA.intro hX.1 rfl (by decide +kernel) (Nat.le_of_ble_eq_true rfl) (fun z C Y E hn h1 hA => ?_)
  rw [show h1 = h from hA]
  clear hA
  have LP : ∀ (t k9 : Nat) (v : Int32), k9 + t = 12 → X z 0 0 (EQ h) 4 [some (.ref u), some (.int v), some (.int (nI k9))] [] := by
    intro t
    induction t with
    | zero =>
      intro k9 v hk
      obtain rfl : k9 = 12 := by omega
      refine x_iload_n C dX0_meterNumber_4 rfl ?_
      refine x_bipush (v := 12) C dX0_meterNumber_5 (by decide) ?_
      refine x_icmp_ge (tgt := 28) C dX0_meterNumber_7 (by decide) (fun _ => ?_) (fun c7 => absurd (Int32.le_refl _) c7)
      refine x_iload_n C dX0_meterNumber_28 rfl ?_
      exact x_iret C E dX0_meterNumber_29 (fun q e => ⟨e, _, rfl⟩)
    | succ t ih =>
      intro k9 v hk
      have T22 : ∀ v : Int32, X z 0 0 (EQ h) 22 [some (.ref u), some (.int v), some (.int (nI k9))] [] := fun v => by
        refine o_iincE (v := nI (k9 + 1)) (L' := [some _, some _, some _]) C dX0_meterNumber_22 rfl (nI_1 k9) (by rw [hn]; decide) rfl ?_
        refine x_goto (tgt := 4) C dX0_meterNumber_25 (by decide) ?_
        exact ih (k9 + 1) v (by omega)
      refine x_iload_n C dX0_meterNumber_4 rfl ?_
      refine x_bipush (v := 12) C dX0_meterNumber_5 (by decide) ?_
      refine x_icmp_ge (tgt := 28) C dX0_meterNumber_7 (by decide) (fun c7 => absurd c7 (Int32.not_le.mpr (nI_lt (show k9 < 12 by omega) (by decide)))) (fun c7 => ?_)
      refine x_aload_n C dX0_meterNumber_10 rfl ?_
      refine e_get C Y kd_X0 0 (by decide) wf_X0_11 dX0_meterNumber_11 B rfl ?_
      refine x_iload_n C dX0_meterNumber_14 rfl ?_
      refine k_meter hX C E.cs D (show k9 < 12 by omega) dX0_meterNumber_15 (fun e => ?_) (fun m e hm => ?_)
      · exact x_ifnullN (tgt := 22) C dX0_meterNumber_16 (by decide) (T22 v)
      · refine x_ifnull C dX0_meterNumber_16 ?_
        refine o_iincE (L' := [some _, some _, some _]) C dX0_meterNumber_19 rfl rfl (by rw [hn]; decide) rfl ?_
        exact T22 _
  refine x_iconst (v := 0) C dX0_meterNumber_0 (by decide) ?_
  refine o_istore_nE (L' := [some _, some _, none]) C dX0_meterNumber_1 (by rw [hn]; decide) rfl ?_
  refine x_iconst (v := 0) C dX0_meterNumber_2 (by decide) ?_
  refine o_istore_nE (L' := [some _, some _, some _]) C dX0_meterNumber_3 (by rw [hn]; decide) rfl ?_
  exact LP 12 0 0 rfl
variable {fr co : Int32}
theorem u_frameNumber (hX : Wx w c) (B : h u = some (.inr (0, [.ref ma, .ref an, .int fr, .int co]))) : TC w yX0_frameNumber cX0_frameNumber 1 (some .int) 0 [.ref u] h (some (.int fr)) h := by
  refine TC.intro hX.1 rfl (by decide +kernel) (Nat.le_of_ble_eq_true rfl) (fun z C Y E hn => ?_)
  refine x_aload_n C dX0_frameNumber_0 rfl ?_
  refine e_get C Y kd_X0 2 (by decide) wf_X0_24 dX0_frameNumber_1 B rfl ?_
  refine e_iret C E dX0_frameNumber_4 ?_ ?_
  all_goals rfl
theorem u_collisionNumber (hX : Wx w c) (B : h u = some (.inr (0, [.ref ma, .ref an, .int fr, .int co]))) : TC w yX0_collisionNumber cX0_collisionNumber 1 (some .int) 0 [.ref u] h (some (.int co)) h := by
  refine TC.intro hX.1 rfl (by decide +kernel) (Nat.le_of_ble_eq_true rfl) (fun z C Y E hn => ?_)
  refine x_aload_n C dX0_collisionNumber_0 rfl ?_
  refine e_get C Y kd_X0 3 (by decide) wf_X0_28 dX0_collisionNumber_1 B rfl ?_
  refine e_iret C E dX0_collisionNumber_4 ?_ ?_
  all_goals rfl
theorem u_lastAnswer (hX : Wx w c) (B : h u = some (.inr (0, [.ref ma, .ref an, .int fr, .int co]))) : TC w yX0_lastAnswer cX0_lastAnswer 1 (some (.object "MeterBus$Row")) 0 [.ref u] h (some (.ref an)) h := by
  refine TC.intro hX.1 rfl (by decide +kernel) (Nat.le_of_ble_eq_true rfl) (fun z C Y E hn => ?_)
  refine x_aload_n C dX0_lastAnswer_0 rfl ?_
  refine e_get C Y kd_X0 1 (by decide) wf_X0_20 dX0_lastAnswer_1 B rfl ?_
  exact e_aret C E (Or.inl ⟨_, rfl⟩) dX0_lastAnswer_4 (Or.inr ⟨_, rfl⟩) rfl rfl
end Bus
end
section
/-! What a Meter, a Reading, a list tell; a page set. -/
section Met
variable {w : Wd} {c : Nat → ClassId} {u ma an aa n m : Nat} {h0 h : PH} {W : Nat → Prop} {α : Nat → Int64} {f : Nat → Option Nat} {κ : Nat → Nat}
theorem t_detail (hX : Wx w c) (D : BX c u ma an aa h0 W α f κ h) (hm : κ m = 1) (x : Int32) : T w gw yX2_detail cX2_detail 2 (some .int) 1 (40 * 1) 0 0 [.ref m, .int x] (EQ h) (fun r g => g = h ∧ ∃ v, r = some (.int v)) := by
  have hW := hX.1
  obtain ⟨n, n90, D⟩ := D
  obtain ⟨pr, se, pt, bt, ac, pg, sz, B, k1, k2, k3⟩ := D.me hm
  obtain ⟨s, Bs⟩ := D.sz k2
  refine TA.intro hW rfl (by decide +kernel) (Nat.le_of_ble_eq_true rfl) (fun z C Y E hn h1 hA => ?_)
  rw [show h1 = h from hA]
  clear hA
  refine x_iload_n C dX2_detail_0 rfl ?_
  by_cases g : x.toInt < 1 ∨ 6 < x.toInt
  · refine x_tblOut (tgt := 78) C dX2_detail_1 g (by decide) ?_
    refine x_iconst (v := 1) C dX2_detail_78 (by decide) ?_
    exact x_iret C E dX2_detail_79 (fun q e => ⟨e, _, rfl⟩)
  rcases (show x.toInt = 1 ∨ x.toInt = 2 ∨ x.toInt = 3 ∨ x.toInt = 4 ∨ x.toInt = 5 ∨ x.toInt = 6 by omega) with e | e | e | e | e | e
  · obtain rfl : x = 1 := Int32.toInt_inj.mp (by rw [e]; rfl)
    refine x_tblIn (tgt := 40) (off := 39) C dX2_detail_1 (by decide) (by decide) (by decide) (by decide) ?_
    refine x_aload_n C dX2_detail_40 rfl ?_
    refine e_get C Y kd_X2 1 (by decide) wf_X2_34 dX2_detail_41 B rfl ?_
    exact x_iret C E dX2_detail_44 (fun q e => ⟨e, _, rfl⟩)
  · obtain rfl : x = 2 := Int32.toInt_inj.mp (by rw [e]; rfl)
    refine x_tblIn (tgt := 45) (off := 44) C dX2_detail_1 (by decide) (by decide) (by decide) (by decide) ?_
    refine x_aload_n C dX2_detail_45 rfl ?_
    refine e_get C Y kd_X2 2 (by decide) wf_X2_9 dX2_detail_46 B rfl ?_
    have T57 : ∀ v : Int32, X z 0 0 (EQ h) 57 [some (.ref m), some (.int 2)] [.int v] := fun v => x_iret C E dX2_detail_57 (fun q e => ⟨e, _, rfl⟩)
    refine x_if_eq (tgt := 56) C dX2_detail_49 (by decide) (fun _ => ?_) (fun _ => ?_)
    · exact x_iconst (v := 0) C dX2_detail_56 (by decide) (T57 _)
    · refine x_iconst (v := 1) C dX2_detail_52 (by decide) ?_
      exact x_goto (tgt := 57) C dX2_detail_53 (by decide) (T57 _)
  · obtain rfl : x = 3 := Int32.toInt_inj.mp (by rw [e]; rfl)
    refine x_tblIn (tgt := 58) (off := 57) C dX2_detail_1 (by decide) (by decide) (by decide) (by decide) ?_
    refine x_aload_n C dX2_detail_58 rfl ?_
    refine u_callV (st := []) C Y hW E.cs (t_pageNumber hW B Bs) md_X2_pageNumber wi_X2_pageNumber ws_X2_pageNumber wm_X2_57 dX2_detail_59 rfl (by decide) (by decide) B rfl rfl (by decide) ?_
    exact x_iret C E dX2_detail_62 (fun q e => ⟨e, _, rfl⟩)
  · obtain rfl : x = 4 := Int32.toInt_inj.mp (by rw [e]; rfl)
    refine x_tblIn (tgt := 63) (off := 62) C dX2_detail_1 (by decide) (by decide) (by decide) (by decide) ?_
    refine x_aload_n C dX2_detail_63 rfl ?_
    refine e_get C Y kd_X2 5 (by decide) wf_X2_24 dX2_detail_64 B rfl ?_
    exact x_iret C E dX2_detail_67 (fun q e => ⟨e, _, rfl⟩)
  · obtain rfl : x = 5 := Int32.toInt_inj.mp (by rw [e]; rfl)
    refine x_tblIn (tgt := 68) (off := 67) C dX2_detail_1 (by decide) (by decide) (by decide) (by decide) ?_
    refine x_aload_n C dX2_detail_68 rfl ?_
    refine e_get C Y kd_X2 6 (by decide) wf_X2_28 dX2_detail_69 B rfl ?_
    exact x_iret C E dX2_detail_72 (fun q e => ⟨e, _, rfl⟩)
  · obtain rfl : x = 6 := Int32.toInt_inj.mp (by rw [e]; rfl)
    refine x_tblIn (tgt := 73) (off := 72) C dX2_detail_1 (by decide) (by decide) (by decide) (by decide) ?_
    refine x_aload_n C dX2_detail_73 rfl ?_
    refine e_get C Y kd_X2 7 (by decide) wf_X2_31 dX2_detail_74 B rfl ?_
    exact x_iret C E dX2_detail_77 (fun q e => ⟨e, _, rfl⟩)
variable {b ba nb : Nat} {fb : Nat → Int32}
theorem t_setPage (hX : Wx w c) (hm : κ m = 1) (Rb : RW c h0 b ba fb nb) (o1 : W b) (o2 : W ba) {j : Nat} (hj : j < 3) : T w gw yX2_setPage cX2_setPage 5 none 2 (40 * 2) 0 0 [.ref m, .int (nI j), .ref b] (BX c u ma an aa h0 W α f κ) (fun r g => r = none ∧ BX c u ma an aa h0 W α f κ g) := by
  have hW := hX.1
  refine TA.intro hW rfl (by decide +kernel) (Nat.le_of_ble_eq_true rfl) (fun z C Y E hn h D => ?_)
  obtain ⟨t5, ht5⟩ : ∃ t : Nat, z.tys[t]? = some (c 5, .array .int) := by rw [E.2.2.2.1]; exact hX.2.2.2.2.2
  obtain ⟨s, hs6, es⟩ : ∃ s, s ≤ 60 ∧ (if (60 : Int32) < nI nb then (60 : Int32) else nI nb) = nI s := by
    by_cases q : (60 : Int32) < nI nb
    · exact ⟨60, Nat.le_refl _, by rw [if_pos q]; rfl⟩
    · exact ⟨nb, Nat.le_of_not_lt (fun g => q (nI_lt g (Nat.lt_of_le_of_lt Rb.2.2.2 (by decide)))), if_neg q⟩
  have R := D.out Rb o1 o2
  have LP : ∀ (r i : Nat) (h : PH), i + r = s → BX c u ma an aa h0 W α f κ h → X z 0 0 (EQ h) 23 [some (.ref m), some (.int (nI j)), some (.ref b), some (.int (nI s)), some (.int (nI i))] [] := by
    intro r
    induction r with
    | zero =>
      intro i h hi D
      obtain rfl : i = s := by omega
      obtain ⟨n, n90, D⟩ := D
      obtain ⟨pr, se, pt, bt, ac, pg, sz, B, k1, k2, k3⟩ := D.me hm
      obtain ⟨s9, Bs⟩ := D.sz k2
      refine x_iload C dX2_setPage_23 rfl ?_
      refine x_iload_n C dX2_setPage_25 rfl ?_
      refine x_icmp_ge (tgt := 50) C dX2_setPage_26 (by decide) (fun _ => ?_) (fun q => absurd (Int32.le_refl _) q)
      refine x_aload_n C dX2_setPage_50 rfl ?_
      refine e_get C Y kd_X2 4 (by decide) wf_X2_20 dX2_setPage_51 B rfl ?_
      refine x_iload_n C dX2_setPage_54 rfl ?_
      refine x_iload_n C dX2_setPage_55 rfl ?_
      refine e_ist C Y dX2_setPage_56 Bs (vp_in_nI hj (by decide)) rfl ?_
      exact x_vret C E dX2_setPage_57 (fun g e => ⟨rfl, n, n90, by rw [e]; exact D.put (by omega) (by rw [k2]; exact ⟨_, rfl⟩)⟩)
    | succ r ih =>
      intro i h hi D
      have Rh := D.out Rb o1 o2
      obtain ⟨n, n90, D⟩ := D
      obtain ⟨pr, se, pt, bt, ac, pg, sz, B, k1, k2, k3⟩ := D.me hm
      obtain ⟨g, Bg, Bg3⟩ := D.pg k1
      obtain ⟨t, t1, t2⟩ := Bg3 j hj
      obtain ⟨s9, Bt⟩ := D.pp t2
      refine x_iload C dX2_setPage_23 rfl ?_
      refine x_iload_n C dX2_setPage_25 rfl ?_
      refine x_icmp_ge (tgt := 50) C dX2_setPage_26 (by decide) (fun q => absurd q (Int32.not_le.mpr (nI_lt (show i < s by omega) (by omega)))) (fun _ => ?_)
      refine x_aload_n C dX2_setPage_29 rfl ?_
      refine e_get C Y kd_X2 3 (by decide) wf_X2_17 dX2_setPage_30 B rfl ?_
      refine x_iload_n C dX2_setPage_33 rfl ?_
      refine e_ald2 C ht5 dX2_setPage_34 Bg rfl hj (by decide) t1 ?_
      refine x_iload C dX2_setPage_35 rfl ?_
      refine x_aload_n C dX2_setPage_37 rfl ?_
      refine x_iload C dX2_setPage_38 rfl ?_
      refine u_callV (st := [.int (nI i), .ref t]) C Y hW E.cs (r_at hW Rh _) md_X5_at wi_X5_at ws_X5_at wm_X2_53 dX2_setPage_40 rfl (by decide) (by decide) Rh.2.1 rfl rfl (by simp [Value.category]) ?_
      refine e_ist C Y dX2_setPage_43 Bt (vp_in_nI (show i < 60 by omega) (by decide)) rfl ?_
      refine o_iincE (v := nI (i + 1)) (L' := [some _, some _, some _, some _, some _]) C dX2_setPage_44 rfl (nI_1 i) (by rw [hn]; decide) rfl ?_
      refine x_goto (tgt := 23) C dX2_setPage_47 (by decide) ?_
      exact ih (i + 1) _ (by omega) ⟨n, n90, D.put (by omega) (by rw [t2]; exact ⟨_, rfl⟩)⟩
  refine x_iload_n C dX2_setPage_0 rfl ?_
  refine x_if_lt (tgt := 9) C dX2_setPage_1 (by decide) (fun q => absurd q (nI_pos (by omega))) (fun _ => ?_)
  refine x_iload_n C dX2_setPage_4 rfl ?_
  refine x_iconst (v := 3) C dX2_setPage_5 (by decide) ?_
  refine x_icmp_lt (tgt := 10) C dX2_setPage_6 (by decide) (fun _ => ?_) (fun q => absurd (nI_lt hj (by decide)) q)
  refine x_aload_n C dX2_setPage_10 rfl ?_
  refine u_callV (st := []) C Y hW E.cs (r_size hW R) md_X5_size wi_X5_size ws_X5_size wm_X2_41 dX2_setPage_11 rfl (by decide) (by decide) R.2.1 rfl rfl (by decide) ?_
  refine x_bipush (v := 60) C dX2_setPage_14 (by decide) ?_
  refine x_min C wm_X2_47 dX2_setPage_16 (by rw [E.fr_]; decide) (by rw [E.lo_]; decide) ?_
  rw [es]
  refine o_istore_nE (L' := [some _, some _, some _, some _, none]) C dX2_setPage_19 (by rw [hn]; decide) rfl ?_
  refine x_iconst (v := 0) C dX2_setPage_20 (by decide) ?_
  refine o_istoreE (L' := [some _, some _, some _, some _, some _]) C dX2_setPage_21 (by rw [hn]; decide) rfl ?_
  exact LP s 0 h (by omega) D
end Met
section Tell
variable {w : Wd} {c : Nat → ClassId} {li ra de p : Nat} {h0 h : PH} {W : Nat → Prop} {κ : Nat → Nat}
theorem q_textAt (hX : Wx w c) (D : DK c li ra de h0 W κ h) (hp : κ p = 1) (x : Int32) : T w gw yX3_textAt cX3_textAt 2 (some .int) 0 (40 * 0) 0 0 [.ref p, .int x] (EQ h) (fun r g => g = h ∧ ∃ v, r = some (.int v)) := by
  obtain ⟨e, B, va, sg, co, fu, ta, un, ln, v, vn, lt, rfl, v1, v2, v3⟩ := D.rd hp
  refine TA.intro hX.1 rfl (by decide +kernel) (Nat.le_of_ble_eq_true rfl) (fun z C Y E hn h1 hA => ?_)
  rw [show h1 = h from hA]
  clear hA
  obtain ⟨t0, ht0⟩ := Y.2.1
  have T29 : X z 0 0 (EQ h) 29 [some (.ref p), some (.int x)] [] := by
    refine x_iconst (v := -1) C dX3_textAt_29 (by decide) ?_
    exact x_iret C E dX3_textAt_30 (fun q e => ⟨e, _, rfl⟩)
  refine x_aload_n C dX3_textAt_0 rfl ?_
  refine e_get C Y kd_X3 8 (by decide) wf_X3_38 dX3_textAt_1 B rfl ?_
  rcases v3 with rfl | ⟨t, rfl, ht⟩
  · exact x_ifnullN (tgt := 29) C dX3_textAt_4 (by decide) T29
  obtain ⟨m, f, m1, m2⟩ := D.lt ht
  refine x_ifnull C dX3_textAt_4 ?_
  refine x_iload_n C dX3_textAt_7 rfl ?_
  refine x_if_lt (tgt := 29) C dX3_textAt_8 (by decide) (fun _ => T29) (fun c8 => ?_)
  refine x_iload_n C dX3_textAt_11 rfl ?_
  refine x_aload_n C dX3_textAt_12 rfl ?_
  refine e_get C Y kd_X3 8 (by decide) wf_X3_38 dX3_textAt_13 B rfl ?_
  refine x_alen C ht0 dX3_textAt_16 (v := nI m) (fun q e => by rw [e]; exact m2) rfl ?_
  refine x_icmp_ge (tgt := 29) C dX3_textAt_17 (by decide) (fun _ => T29) (fun c17 => ?_)
  obtain ⟨j, hj, rfl⟩ := nI_of c8
  have hj2 : j < m := (nI_ltI hj (by omega)).mp (Int32.not_le.mp c17)
  refine x_aload_n C dX3_textAt_20 rfl ?_
  refine e_get C Y kd_X3 8 (by decide) wf_X3_38 dX3_textAt_21 B rfl ?_
  refine x_iload_n C dX3_textAt_24 rfl ?_
  refine e_ild C Y dX3_textAt_25 m2 (vp_in_nI hj2 (by omega)) ?_
  refine x_goto (tgt := 30) C dX3_textAt_26 (by decide) ?_
  exact x_iret C E dX3_textAt_30 (fun q e => ⟨e, _, rfl⟩)
theorem q_detail (hX : Wx w c) (D : DK c li ra de h0 W κ h) (hp : κ p = 1) (x : Int32) : T w gw yX3_detail cX3_detail 2 (some .long) 0 (40 * 0) 0 0 [.ref p, .int x] (EQ h) (fun r g => g = h ∧ ∃ v, r = some (.long v)) := by
  obtain ⟨e, B, va, sg, co, fu, ta, un, ln, v, vn, lt, rfl, v1, v2, v3⟩ := D.rd hp
  obtain ⟨f, m2⟩ := D.vf v1
  refine TA.intro hX.1 rfl (by decide +kernel) (Nat.le_of_ble_eq_true rfl) (fun z C Y E hn h1 hA => ?_)
  rw [show h1 = h from hA]
  clear hA
  obtain ⟨t0, ht0⟩ := Y.2.1
  refine x_iload_n C dX3_detail_0 rfl ?_
  by_cases g : x.toInt < 0 ∨ 6 < x.toInt
  · refine x_tblOut (tgt := 84) C dX3_detail_1 g (by decide) ?_
    have T115 : X z 0 0 (EQ h) 115 [some (.ref p), some (.int x)] [] := by
      refine x_ldc2 C wk_X3_50 dX3_detail_115 ?_
      exact x_lret C E dX3_detail_118 (fun q e => ⟨e, _, rfl⟩)
    refine x_iload_n C dX3_detail_84 rfl ?_
    refine x_bipush (v := 7) C dX3_detail_85 (by decide) ?_
    refine x_icmp_lt (tgt := 115) C dX3_detail_87 (by decide) (fun _ => T115) (fun c7 => ?_)
    obtain ⟨j, hj, rfl⟩ := nI_of (x := x) (fun q => c7 (Int32.lt_trans q (by decide)))
    have hj7 : 7 ≤ j := Nat.le_of_not_lt (fun q => c7 (nI_lt q (by decide)))
    refine x_iload_n C dX3_detail_90 rfl ?_
    refine x_bipush (v := 7) C dX3_detail_91 (by decide) ?_
    refine x_isub C dX3_detail_93 ?_
    rw [show nI j - 7 = nI (j - 7) from nI_sub' hj7]
    refine x_aload_n C dX3_detail_94 rfl ?_
    refine e_get C Y kd_X3 6 (by decide) wf_X3_31 dX3_detail_95 B rfl ?_
    refine x_alen C ht0 dX3_detail_98 (v := nI 11) (fun q e => by rw [e]; exact m2) rfl ?_
    refine x_icmp_ge (tgt := 115) C dX3_detail_99 (by decide) (fun _ => T115) (fun c17 => ?_)
    have hj2 : j - 7 < 11 := (nI_ltI (by omega) (by decide)).mp (Int32.not_le.mp c17)
    refine x_aload_n C dX3_detail_102 rfl ?_
    refine e_get C Y kd_X3 6 (by decide) wf_X3_31 dX3_detail_103 B rfl ?_
    refine x_iload_n C dX3_detail_106 rfl ?_
    refine x_bipush (v := 7) C dX3_detail_107 (by decide) ?_
    refine x_isub C dX3_detail_109 ?_
    rw [show nI j - 7 = nI (j - 7) from nI_sub' hj7]
    refine e_ild C Y dX3_detail_110 m2 (vp_in_nI hj2 (by decide)) ?_
    refine x_i2l C dX3_detail_111 ?_
    refine x_goto (tgt := 118) C dX3_detail_112 (by decide) ?_
    exact x_lret C E dX3_detail_118 (fun q e => ⟨e, _, rfl⟩)
  rcases (show x.toInt = 0 ∨ x.toInt = 1 ∨ x.toInt = 2 ∨ x.toInt = 3 ∨ x.toInt = 4 ∨ x.toInt = 5 ∨ x.toInt = 6 by omega) with e | e | e | e | e | e | e
  · obtain rfl : x = 0 := Int32.toInt_inj.mp (by rw [e]; rfl)
    refine x_tblIn (tgt := 44) (off := 43) C dX3_detail_1 (by decide) (by decide) (by decide) (by decide) ?_
    refine x_aload_n C dX3_detail_44 rfl ?_
    refine e_get C Y kd_X3 0 (by decide) wf_X3_9 dX3_detail_45 B rfl ?_
    exact x_lret C E dX3_detail_48 (fun q e => ⟨e, _, rfl⟩)
  · obtain rfl : x = 1 := Int32.toInt_inj.mp (by rw [e]; rfl)
    refine x_tblIn (tgt := 49) (off := 48) C dX3_detail_1 (by decide) (by decide) (by decide) (by decide) ?_
    refine x_aload_n C dX3_detail_49 rfl ?_
    refine e_get C Y kd_X3 1 (by decide) wf_X3_15 dX3_detail_50 B rfl ?_
    refine x_i2l C dX3_detail_53 ?_
    exact x_lret C E dX3_detail_54 (fun q e => ⟨e, _, rfl⟩)
  · obtain rfl : x = 2 := Int32.toInt_inj.mp (by rw [e]; rfl)
    refine x_tblIn (tgt := 55) (off := 54) C dX3_detail_1 (by decide) (by decide) (by decide) (by decide) ?_
    refine x_aload_n C dX3_detail_55 rfl ?_
    refine e_get C Y kd_X3 2 (by decide) wf_X3_19 dX3_detail_56 B rfl ?_
    refine x_i2l C dX3_detail_59 ?_
    exact x_lret C E dX3_detail_60 (fun q e => ⟨e, _, rfl⟩)
  · obtain rfl : x = 3 := Int32.toInt_inj.mp (by rw [e]; rfl)
    refine x_tblIn (tgt := 61) (off := 60) C dX3_detail_1 (by decide) (by decide) (by decide) (by decide) ?_
    refine x_aload_n C dX3_detail_61 rfl ?_
    refine e_get C Y kd_X3 3 (by decide) wf_X3_22 dX3_detail_62 B rfl ?_
    exact x_lret C E dX3_detail_65 (fun q e => ⟨e, _, rfl⟩)
  · obtain rfl : x = 4 := Int32.toInt_inj.mp (by rw [e]; rfl)
    refine x_tblIn (tgt := 66) (off := 65) C dX3_detail_1 (by decide) (by decide) (by decide) (by decide) ?_
    refine x_aload_n C dX3_detail_66 rfl ?_
    refine e_get C Y kd_X3 4 (by decide) wf_X3_25 dX3_detail_67 B rfl ?_
    refine x_i2l C dX3_detail_70 ?_
    exact x_lret C E dX3_detail_71 (fun q e => ⟨e, _, rfl⟩)
  · obtain rfl : x = 5 := Int32.toInt_inj.mp (by rw [e]; rfl)
    refine x_tblIn (tgt := 72) (off := 71) C dX3_detail_1 (by decide) (by decide) (by decide) (by decide) ?_
    refine x_aload_n C dX3_detail_72 rfl ?_
    refine e_get C Y kd_X3 5 (by decide) wf_X3_28 dX3_detail_73 B rfl ?_
    refine x_i2l C dX3_detail_76 ?_
    exact x_lret C E dX3_detail_77 (fun q e => ⟨e, _, rfl⟩)
  · obtain rfl : x = 6 := Int32.toInt_inj.mp (by rw [e]; rfl)
    refine x_tblIn (tgt := 78) (off := 77) C dX3_detail_1 (by decide) (by decide) (by decide) (by decide) ?_
    refine x_aload_n C dX3_detail_78 rfl ?_
    refine e_get C Y kd_X3 7 (by decide) wf_X3_35 dX3_detail_79 B rfl ?_
    refine x_i2l C dX3_detail_82 ?_
    exact x_lret C E dX3_detail_83 (fun q e => ⟨e, _, rfl⟩)
theorem l_at (hX : Wx w c) (D : DK c li ra de h0 W κ h) (x : Int32) : T w gw yX4_at cX4_at 2 (some (.object "MeterBus$Reading")) 0 (40 * 0) 0 0 [.ref li, .int x] (EQ h) (fun r g => g = h ∧ (r = some .null ∨ ∃ p, r = some (.ref p) ∧ κ p = 1)) := by
  obtain ⟨⟨n, n1, n2⟩, ⟨g, g1, g2⟩, -⟩ := D
  refine TA.intro hX.1 rfl (by decide +kernel) (Nat.le_of_ble_eq_true rfl) (fun z C Y E hn h1 hA => ?_)
  rw [show h1 = h from hA]
  clear hA
  obtain ⟨t, ht⟩ := hX.tR E.cs
  have T30 : X z 0 0 (EQ h) 30 [some (.ref li), some (.int x)] [] := by
    refine x_null C dX4_at_30 ?_
    exact x_aret C E (Or.inl ⟨_, rfl⟩) dX4_at_31 (Or.inl rfl) (fun q e => ⟨e, Or.inl rfl⟩)
  refine x_iload_n C dX4_at_0 rfl ?_
  refine x_if_lt (tgt := 30) C dX4_at_1 (by decide) (fun _ => T30) (fun c1 => ?_)
  refine x_iload_n C dX4_at_4 rfl ?_
  refine x_aload_n C dX4_at_5 rfl ?_
  refine e_get C Y kd_X4 1 (by decide) wf_X4_17 dX4_at_6 n2 rfl ?_
  refine x_icmp_ge (tgt := 30) C dX4_at_9 (by decide) (fun _ => T30) (fun c9 => ?_)
  refine x_iload_n C dX4_at_12 rfl ?_
  refine x_aload_n C dX4_at_13 rfl ?_
  refine e_get C Y kd_X4 0 (by decide) wf_X4_11 dX4_at_14 n2 rfl ?_
  refine x_alen C ht dX4_at_17 (v := nI 101) (fun q e => by rw [e]; exact g1) rfl ?_
  refine x_icmp_ge (tgt := 30) C dX4_at_18 (by decide) (fun _ => T30) (fun c17 => ?_)
  obtain ⟨j, hj, rfl⟩ := nI_of c1
  have hj2 : j < 101 := (nI_ltI hj (by decide)).mp (Int32.not_le.mp c17)
  refine x_aload_n C dX4_at_21 rfl ?_
  refine e_get C Y kd_X4 0 (by decide) wf_X4_11 dX4_at_22 n2 rfl ?_
  refine x_iload_n C dX4_at_25 rfl ?_
  refine x_aald C ht dX4_at_26 (fun q e => by rw [e]; exact g1) (vp_in_nI hj2 (by decide)) ?_
  refine x_goto (tgt := 31) C dX4_at_27 (by decide) ?_
  rw [nI_clamp hj]
  cases e : g j with
  | none => exact x_aret C E (Or.inl ⟨_, rfl⟩) dX4_at_31 (Or.inl rfl) (fun q e => ⟨e, Or.inl rfl⟩)
  | some p => exact x_aret C E (Or.inl ⟨_, rfl⟩) dX4_at_31 (Or.inr ⟨_, rfl⟩) (fun q e9 => ⟨e9, Or.inr ⟨p, rfl, g2 j p e⟩⟩)
end Tell
end
