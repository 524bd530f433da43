/-! Meter: it hears and answers; its Bus owns what it owned. -/
section Met
variable {w : Wd} {c : Nat → ClassId} {u ma an aa n m : Nat} {h0 h : PH} {W : Nat → Prop} {α : Nat → Int64} {f : Nat → Option Nat} {κ : Nat → Nat}
section Rows
variable {z : Fx} {cc : ByteArray} {kc ks pc : Nat} {L : List (Option Value)} {st : List Value} {lvl : Nat}
/-- answer.add, and what comes behind it -/
theorem k_add (C : Cx z RX2 cc gw) (Y : Cty z c) (hW : Wc w c) (E : Cs z w lvl (40 * lvl)) (hl : 0 < lvl) (D : BN c u ma an aa h0 W α f κ n h) (hn : n < 300) (x : Int32) (d : decode cc pc = .ok (.invokevirtual 80, 3)) (hcat : (st.map fun v => v.category).sum ≤ 8)
    (k : ∀ g, BN c u ma an aa h0 W α f κ (n + 1) g → X z kc ks (EQ g) (pc + 3) L st) : X z kc ks (EQ h) pc L (.int x :: .ref an :: st) := by
  obtain ⟨g, R, hb⟩ := D.2.2.2.1
  have ra := r_add hW R x
  rw [show rNum n = n + 1 from if_pos hn] at ra
  refine u_callV (st := st) C Y hW E ra md_X5_add wi_X5_add ws_X5_add wm_X2_80 d rfl hl (by decide) R.2.1 rfl rfl hcat ?_
  exact k _ (D.putA (by omega) (hb.add hn x))
end Rows
theorem t_write (hX : Wx w c) (hm : κ m = 1) : T w gw yX2_writeAnswer cX2_writeAnswer 6 none 3 (40 * 3) 0 0 [.ref m, .ref an] (BX c u ma an aa h0 W α f κ) (fun r g => r = none ∧ BX c u ma an aa h0 W α f κ g) := by
  have hW := hX.1
  refine TA.intro hW rfl (by decide +kernel) (Nat.le_of_ble_eq_true rfl) (fun z C Y E hn h D => ?_)
  obtain ⟨n, n90, D⟩ := D
  obtain ⟨t5, ht5⟩ : ∃ t : Nat, z.tys[t]? = some (c 5, .array .int) := by rw [E.2.2.2.1]; exact hX.2.2.2.2.2
  obtain ⟨pr, se, pt, bt, ac, pg, sz, B, k1, k2, k3⟩ := D.me hm
  obtain ⟨s, Bs⟩ := D.sz k2
  -- the page: 0 .. 2
  have T23 : ∀ j : Nat, j < 3 → X z 0 0 (EQ h) 23 [some (.ref m), some (.ref an), none, none, none, none] [.int (nI j)] := fun j hj => by
    refine o_istore_nE (L' := [some _, some _, some _, none, none, none]) C dX2_writeAnswer_23 (by rw [hn]; decide) rfl ?_
    refine x_iload_n C dX2_writeAnswer_24 rfl ?_
    refine x_iconst (v := 1) C dX2_writeAnswer_25 (by decide) ?_
    refine x_iadd C dX2_writeAnswer_26 ?_
    refine x_aload_n C dX2_writeAnswer_27 rfl ?_
    refine u_callV (st := [_]) C Y hW E.cs (t_pageNumber hW B Bs) md_X2_pageNumber wi_X2_pageNumber ws_X2_pageNumber wm_X2_57 dX2_writeAnswer_28 rfl (by decide) (by decide) B rfl rfl (by simp [Value.category]) ?_
    have T39 : ∀ x3 : Int32, X z 0 0 (EQ h) 39 [some (.ref m), some (.ref an), some (.int (nI j)), none, none, none] [.int x3] := fun x3 => by
      refine o_istore_nE (L' := [some _, some _, some _, some _, none, none]) C dX2_writeAnswer_39 (by rw [hn]; decide) rfl ?_
      refine x_bipush (v := 15) C dX2_writeAnswer_40 (by decide) ?_
      refine x_aload_n C dX2_writeAnswer_42 rfl ?_
      refine e_get C Y kd_X2 4 (by decide) wf_X2_20 dX2_writeAnswer_43 B rfl ?_
      refine x_iload_n C dX2_writeAnswer_46 rfl ?_
      refine e_ild C Y dX2_writeAnswer_47 Bs (vp_in_nI hj (by decide)) ?_
      refine x_iadd C dX2_writeAnswer_48 ?_
      refine x_iload_n C dX2_writeAnswer_49 rfl ?_
      have T58 : ∀ x y : Int32, X z 0 0 (EQ h) 58 [some (.ref m), some (.ref an), some (.int (nI j)), some (.int x3), none, none] [.int x, .int y] := fun x y => by
        refine x_iadd C dX2_writeAnswer_58 ?_
        refine o_istoreE (L' := [some _, some _, some _, some _, some _, none]) C dX2_writeAnswer_59 (by rw [hn]; decide) rfl ?_
        obtain ⟨g0, R0, hb0⟩ := D.2.2.2.1
        have rc := r_cutTo hW R0 0
        have e0 : rCut n 0 = 0 := by
          unfold rCut
          split
          · rfl
          · rename_i q
            exact Decidable.byContradiction fun q2 => q ⟨Int32.le_refl _, nI_lt (a := 0) (show 0 < n by omega) (by omega)⟩
        rw [e0] at rc
        refine x_aload_n C dX2_writeAnswer_61 rfl ?_
        refine x_iconst (v := 0) C dX2_writeAnswer_62 (by decide) ?_
        refine u_callV (st := []) C Y hW E.cs rc md_X5_cutTo wi_X5_cutTo ws_X5_cutTo wm_X2_76 dX2_writeAnswer_63 rfl (by decide) (by decide) R0.2.1 rfl rfl (by decide) ?_
        have D0 := D.putA (g := g0) (n' := 0) (by decide) (fun j hj => absurd hj (Nat.not_lt_zero j))
        generalize rowh c h an aa g0 0 = h1 at D0 ⊢
        -- seven bytes
        refine x_aload_n C dX2_writeAnswer_66 rfl ?_
        refine x_bipush (v := 104) C dX2_writeAnswer_67 (by decide) ?_
        refine k_add (st := []) C Y hW E.cs (by decide) D0 (by decide) _ dX2_writeAnswer_69 (by decide) (fun h1 D1 => ?_)
        refine x_aload_n C dX2_writeAnswer_72 rfl ?_
        refine x_iload C dX2_writeAnswer_73 rfl ?_
        refine k_add (st := []) C Y hW E.cs (by decide) D1 (by decide) _ dX2_writeAnswer_75 (by decide) (fun h1 D2 => ?_)
        refine x_aload_n C dX2_writeAnswer_78 rfl ?_
        refine x_iload C dX2_writeAnswer_79 rfl ?_
        refine k_add (st := []) C Y hW E.cs (by decide) D2 (by decide) _ dX2_writeAnswer_81 (by decide) (fun h1 D3 => ?_)
        refine x_aload_n C dX2_writeAnswer_84 rfl ?_
        refine x_bipush (v := 104) C dX2_writeAnswer_85 (by decide) ?_
        refine k_add (st := []) C Y hW E.cs (by decide) D3 (by decide) _ dX2_writeAnswer_87 (by decide) (fun h1 D4 => ?_)
        refine x_aload_n C dX2_writeAnswer_90 rfl ?_
        refine x_bipush (v := 8) C dX2_writeAnswer_91 (by decide) ?_
        refine k_add (st := []) C Y hW E.cs (by decide) D4 (by decide) _ dX2_writeAnswer_93 (by decide) (fun h1 D5 => ?_)
        obtain ⟨pr5, se5, pt5, bt5, ac5, pg5, sz5, B5, k15, k25, k35⟩ := D5.me hm
        refine x_aload_n C dX2_writeAnswer_96 rfl ?_
        refine x_aload_n C dX2_writeAnswer_97 rfl ?_
        refine e_get C Y kd_X2 1 (by decide) wf_X2_34 dX2_writeAnswer_98 B5 rfl ?_
        refine k_add (st := []) C Y hW E.cs (by decide) D5 (by decide) _ dX2_writeAnswer_101 (by decide) (fun h1 D6 => ?_)
        refine x_aload_n C dX2_writeAnswer_104 rfl ?_
        refine x_bipush (v := 114) C dX2_writeAnswer_105 (by decide) ?_
        refine k_add (st := []) C Y hW E.cs (by decide) D6 (by decide) _ dX2_writeAnswer_107 (by decide) (fun h7 D7 => ?_)
        -- the address
        obtain ⟨pr7, se7, pt7, bt7, ac7, pg7, sz7, B7, k17, k27, k37⟩ := D7.me hm
        obtain ⟨g7, R7, hb7⟩ := D7.2.2.2.1
        have ra := r_addAddress hW R7 (α m)
        obtain ⟨ea, eb⟩ := adF_n (α m) g7 _ (by decide) hb7 8 (Nat.le_refl _)
        rw [ea] at ra
        refine x_aload_n C dX2_writeAnswer_110 rfl ?_
        refine x_aload_n C dX2_writeAnswer_111 rfl ?_
        refine e_get C Y kd_X2 0 (by decide) wf_X2_37 dX2_writeAnswer_112 B7 rfl ?_
        refine u_callV (st := []) C Y hW E.cs ra md_X5_addAddress wi_X5_addAddress ws_X5_addAddress wm_X2_83 dX2_writeAnswer_115 rfl (by decide) (by decide) R7.2.1 rfl rfl (by decide) ?_
        have D8 := D7.putA (by decide) eb
        generalize rowh c h7 an aa (adF (α m) g7 (0 + 1 + 1 + 1 + 1 + 1 + 1 + 1) 8).1 (0 + 1 + 1 + 1 + 1 + 1 + 1 + 1 + 8) = h8 at D8 ⊢
        obtain ⟨pr8, se8, pt8, bt8, ac8, pg8, sz8, B8, k18, k28, k38⟩ := D8.me hm
        refine x_aload_n C dX2_writeAnswer_118 rfl ?_
        refine x_aload_n C dX2_writeAnswer_119 rfl ?_
        refine e_get C Y kd_X2 7 (by decide) wf_X2_31 dX2_writeAnswer_120 B8 rfl ?_
        refine k_add (st := []) C Y hW E.cs (by decide) D8 (by decide) _ dX2_writeAnswer_123 (by decide) (fun h9 D9 => ?_)
        -- the end: a sum and a stop
        have T196 : ∀ (k : Nat) (hh : PH) (l5 : Option Value), k ≤ 80 → BN c u ma an aa h0 W α f κ k hh → X z 0 0 (EQ hh) 196 [some (.ref m), some (.ref an), some (.int (nI j)), some (.int x3), some (.int (y + x)), l5] [] := fun k hh l5 hk D => by
          obtain ⟨g, R, hb⟩ := D.2.2.2.1
          refine x_aload_n C dX2_writeAnswer_196 rfl ?_
          refine x_aload_n C dX2_writeAnswer_197 rfl ?_
          refine x_iconst (v := 4) C dX2_writeAnswer_198 (by decide) ?_
          refine x_aload_n C dX2_writeAnswer_199 rfl ?_
          refine u_callV (st := [.int 4, .ref an, .ref an]) C Y hW E.cs (r_size hW R) md_X5_size wi_X5_size ws_X5_size wm_X2_41 dX2_writeAnswer_200 rfl (by decide) (by decide) R.2.1 rfl rfl (by simp [Value.category]) ?_
          refine u_callV (st := [.ref an]) C Y hW E.cs (r_sum hW R 4 k (by decide) (by omega)) md_X5_sum wi_X5_sum ws_X5_sum wm_X2_87 dX2_writeAnswer_203 rfl (by decide) (by decide) R.2.1 rfl rfl (by simp [Value.category]) ?_
          refine k_add (st := []) C Y hW E.cs (by decide) D (by omega) _ dX2_writeAnswer_206 (by decide) (fun h1 D1 => ?_)
          refine x_aload_n C dX2_writeAnswer_209 rfl ?_
          refine x_bipush (v := 22) C dX2_writeAnswer_210 (by decide) ?_
          refine k_add (st := []) C Y hW E.cs (by decide) D1 (by omega) _ dX2_writeAnswer_212 (by decide) (fun h2 D2 => ?_)
          exact x_vret C E dX2_writeAnswer_215 (fun g e => by subst e; exact ⟨rfl, _, by omega, D2⟩)
        have T186 : ∀ (k : Nat) (hh : PH) (l5 : Option Value), k ≤ 79 → BN c u ma an aa h0 W α f κ k hh → X z 0 0 (EQ hh) 186 [some (.ref m), some (.ref an), some (.int (nI j)), some (.int x3), some (.int (y + x)), l5] [] := fun k hh l5 hk D => by
          refine x_iload_n C dX2_writeAnswer_186 rfl ?_
          refine x_if_eq (tgt := 196) C dX2_writeAnswer_187 (by decide) (fun _ => T196 k hh l5 (by omega) D) (fun _ => ?_)
          refine x_aload_n C dX2_writeAnswer_190 rfl ?_
          refine x_bipush (v := 31) C dX2_writeAnswer_191 (by decide) ?_
          refine k_add (st := []) C Y hW E.cs (by decide) D (by omega) _ dX2_writeAnswer_193 (by decide) (fun h1 D1 => ?_)
          exact T196 (k + 1) h1 l5 (by omega) D1
        -- the page's bytes
        have LP : ∀ (r i : Nat) (hh : PH), i + r = 60 → BN c u ma an aa h0 W α f κ (19 + i) hh → X z 0 0 (EQ hh) 149 [some (.ref m), some (.ref an), some (.int (nI j)), some (.int x3), some (.int (y + x)), some (.int (nI i))] [] := by
          intro r
          induction r with
          | zero =>
            intro i hh hi D
            obtain rfl : i = 60 := by omega
            obtain ⟨pr, se, pt, bt, ac, pg, sz, B, k1, k2, k3⟩ := D.me hm
            obtain ⟨s, Bs⟩ := D.sz k2
            refine x_iload C dX2_writeAnswer_149 rfl ?_
            refine x_aload_n C dX2_writeAnswer_151 rfl ?_
            refine e_get C Y kd_X2 4 (by decide) wf_X2_20 dX2_writeAnswer_152 B rfl ?_
            refine x_iload_n C dX2_writeAnswer_155 rfl ?_
            refine e_ild C Y dX2_writeAnswer_156 Bs (vp_in_nI hj (by decide)) ?_
            refine x_icmp_ge (tgt := 186) C dX2_writeAnswer_157 (by decide) (fun _ => T186 _ hh _ (by decide) D) (fun _ => ?_)
            refine x_iload C dX2_writeAnswer_160 rfl ?_
            refine x_bipush (v := 60) C dX2_writeAnswer_162 (by decide) ?_
            exact x_icmp_ge (tgt := 186) C dX2_writeAnswer_164 (by decide) (fun _ => T186 _ hh _ (by decide) D) (fun q => absurd (Int32.le_refl _) q)
          | succ r ih =>
            intro i hh hi D
            obtain ⟨pr, se, pt, bt, ac, pg, sz, B, k1, k2, k3⟩ := D.me hm
            obtain ⟨s, Bs⟩ := D.sz k2
            obtain ⟨gp, Bp, hgp⟩ := D.pg k1
            obtain ⟨tp, etp, ktp⟩ := hgp j hj
            obtain ⟨fp, Btp⟩ := D.pp ktp
            refine x_iload C dX2_writeAnswer_149 rfl ?_
            refine x_aload_n C dX2_writeAnswer_151 rfl ?_
            refine e_get C Y kd_X2 4 (by decide) wf_X2_20 dX2_writeAnswer_152 B rfl ?_
            refine x_iload_n C dX2_writeAnswer_155 rfl ?_
            refine e_ild C Y dX2_writeAnswer_156 Bs (vp_in_nI hj (by decide)) ?_
            refine x_icmp_ge (tgt := 186) C dX2_writeAnswer_157 (by decide) (fun _ => T186 _ hh _ (by omega) D) (fun _ => ?_)
            refine x_iload C dX2_writeAnswer_160 rfl ?_
            refine x_bipush (v := 60) C dX2_writeAnswer_162 (by decide) ?_
            refine x_icmp_ge (tgt := 186) C dX2_writeAnswer_164 (by decide) (fun _ => T186 _ hh _ (by omega) D) (fun _ => ?_)
            refine x_aload_n C dX2_writeAnswer_167 rfl ?_
            refine x_aload_n C dX2_writeAnswer_168 rfl ?_
            refine e_get C Y kd_X2 3 (by decide) wf_X2_17 dX2_writeAnswer_169 B rfl ?_
            refine x_iload_n C dX2_writeAnswer_172 rfl ?_
            refine e_ald2 C ht5 dX2_writeAnswer_173 Bp rfl hj (by decide) etp ?_
            refine x_iload C dX2_writeAnswer_174 rfl ?_
            refine e_ild C Y dX2_writeAnswer_176 Btp (vp_in_nI (show i < 60 by omega) (by decide)) ?_
            refine k_add (st := []) C Y hW E.cs (by decide) D (by omega) _ dX2_writeAnswer_177 (by decide) (fun h1 D1 => ?_)
            refine o_iincE (v := nI (i + 1)) (L' := [some _, some _, some _, some _, some _, some _]) C dX2_writeAnswer_180 rfl (nI_1 i) (by rw [hn]; decide) rfl ?_
            refine x_goto (tgt := 149) C dX2_writeAnswer_183 (by decide) ?_
            exact ih (i + 1) h1 (by omega) D1
        -- three zeros
        have LZ3 : ∀ (r i : Nat) (hh : PH), i + r = 3 → BN c u ma an aa h0 W α f κ (16 + i) hh → X z 0 0 (EQ hh) 129 [some (.ref m), some (.ref an), some (.int (nI j)), some (.int x3), some (.int (y + x)), some (.int (nI i))] [] := by
          intro r
          induction r with
          | zero =>
            intro i hh hi D
            obtain rfl : i = 3 := by omega
            refine x_iload C dX2_writeAnswer_129 rfl ?_
            refine x_iconst (v := 3) C dX2_writeAnswer_131 (by decide) ?_
            refine x_icmp_ge (tgt := 146) C dX2_writeAnswer_132 (by decide) (fun _ => ?_) (fun q => absurd (Int32.le_refl _) q)
            refine x_iconst (v := 0) C dX2_writeAnswer_146 (by decide) ?_
            refine o_istoreE (L' := [some _, some _, some _, some _, some _, some _]) C dX2_writeAnswer_147 (by rw [hn]; decide) rfl ?_
            exact LP 60 0 hh rfl D
          | succ r ih =>
            intro i hh hi D
            refine x_iload C dX2_writeAnswer_129 rfl ?_
            refine x_iconst (v := 3) C dX2_writeAnswer_131 (by decide) ?_
            refine x_icmp_ge (tgt := 146) C dX2_writeAnswer_132 (by decide) (fun q => absurd q (Int32.not_le.mpr (nI_lt (show i < 3 by omega) (by decide)))) (fun _ => ?_)
            refine x_aload_n C dX2_writeAnswer_135 rfl ?_
            refine x_iconst (v := 0) C dX2_writeAnswer_136 (by decide) ?_
            refine k_add (st := []) C Y hW E.cs (by decide) D (by omega) _ dX2_writeAnswer_137 (by decide) (fun h1 D1 => ?_)
            refine o_iincE (v := nI (i + 1)) (L' := [some _, some _, some _, some _, some _, some _]) C dX2_writeAnswer_140 rfl (nI_1 i) (by rw [hn]; decide) rfl ?_
            refine x_goto (tgt := 129) C dX2_writeAnswer_143 (by decide) ?_
            exact ih (i + 1) h1 (by omega) D1
        refine x_iconst (v := 0) C dX2_writeAnswer_126 (by decide) ?_
        refine o_istoreE (L' := [some _, some _, some _, some _, some _, some _]) C dX2_writeAnswer_127 (by rw [hn]; decide) rfl ?_
        exact LZ3 3 0 h9 rfl D9
      refine x_if_eq (tgt := 57) C dX2_writeAnswer_50 (by decide) (fun _ => ?_) (fun _ => ?_)
      · exact x_iconst (v := 0) C dX2_writeAnswer_57 (by decide) (T58 _ _)
      · refine x_iconst (v := 1) C dX2_writeAnswer_53 (by decide) ?_
        exact x_goto (tgt := 58) C dX2_writeAnswer_54 (by decide) (T58 _ _)
    refine x_icmp_ge (tgt := 38) C dX2_writeAnswer_31 (by decide) (fun _ => ?_) (fun _ => ?_)
    · exact x_iconst (v := 0) C dX2_writeAnswer_38 (by decide) (T39 _)
    · refine x_iconst (v := 1) C dX2_writeAnswer_34 (by decide) ?_
      exact x_goto (tgt := 39) C dX2_writeAnswer_35 (by decide) (T39 _)
  have T22 : X z 0 0 (EQ h) 22 [some (.ref m), some (.ref an), none, none, none, none] [] := x_iconst (v := 0) C dX2_writeAnswer_22 (by decide) (T23 0 (by decide))
  refine x_aload_n C dX2_writeAnswer_0 rfl ?_
  refine e_get C Y kd_X2 5 (by decide) wf_X2_24 dX2_writeAnswer_1 B rfl ?_
  refine x_if_lt (tgt := 22) C dX2_writeAnswer_4 (by decide) (fun _ => T22) (fun q1 => ?_)
  refine x_aload_n C dX2_writeAnswer_7 rfl ?_
  refine e_get C Y kd_X2 5 (by decide) wf_X2_24 dX2_writeAnswer_8 B rfl ?_
  refine x_iconst (v := 3) C dX2_writeAnswer_11 (by decide) ?_
  refine x_icmp_ge (tgt := 22) C dX2_writeAnswer_12 (by decide) (fun _ => T22) (fun q2 => ?_)
  obtain ⟨j, hj, rfl⟩ := nI_of q1
  have hj3 : j < 3 := (nI_ltI hj (by decide)).mp (Int32.not_le.mp q2)
  refine x_aload_n C dX2_writeAnswer_15 rfl ?_
  refine e_get C Y kd_X2 5 (by decide) wf_X2_24 dX2_writeAnswer_16 B rfl ?_
  exact x_goto (tgt := 23) C dX2_writeAnswer_19 (by decide) (T23 j hj3)
end Met
