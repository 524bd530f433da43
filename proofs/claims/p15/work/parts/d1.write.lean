/-! Meter: what it tells, told whole. -/
def lstF (g : Nat → Int32) (l : List Int32) : Nat → Int32 := fun i => if i < l.length then l.getD i 0 else g i
theorem lstF_add (g : Nat → Int32) (l : List Int32) (x : Int32) : upd (lstF g l) l.length x = lstF g (l ++ [x]) := by
  funext j
  unfold lstF
  simp only [upd, List.length_append, List.length_singleton, List.getD_eq_getElem?_getD]
  by_cases q : j = l.length
  · subst q; simp
  · by_cases q2 : j < l.length
    · simp [q, q2, List.getElem?_append_left, Nat.lt_succ_of_lt q2]
    · simp [q, q2, show ¬ j < l.length + 1 by omega]
theorem lstF_nil (g : Nat → Int32) : lstF g [] = g := by funext i; simp [lstF]
theorem lstF_at {g : Nat → Int32} {l : List Int32} {i : Nat} (h : i < l.length) : lstF g l i = l.getD i 0 := if_pos h
/-- the row an (bytes aa, before: g) holds the list -/
abbrev rl (c : Nat → ClassId) (h : PH) (an aa : Nat) (g : Nat → Int32) (l : List Int32) : PH := rowh c h an aa (lstF g l) l.length
theorem rl_RW {c : Nat → ClassId} {h : PH} {an aa : Nat} {g : Nat → Int32} {l : List Int32} (n0 : an ≠ aa) (hl : l.length ≤ 300) : RW c (rl c h an aa g l) an aa (lstF g l) l.length := RW.of n0 hl
theorem rl_add {c : Nat → ClassId} {h : PH} {an aa : Nat} {g : Nat → Int32} {l : List Int32} (n0 : an ≠ aa) (hl : l.length < 300) (x : Int32) : rowh c (rl c h an aa g l) an aa (rAdd (lstF g l) l.length x) (rNum l.length) = rl c h an aa g (l ++ [x &&& 255]) := by
  rw [rw_rw n0, show rNum l.length = l.length + 1 from if_pos hl, show rAdd (lstF g l) l.length x = lstF g (l ++ [x &&& 255]) from (if_pos hl).trans (lstF_add ..)]
  show _ = rowh c h an aa (lstF g (l ++ [x &&& 255])) (l ++ [x &&& 255]).length
  rw [List.length_append]
  rfl
def addrL (ad : Int64) (n : Nat) : List Int32 := (List.range n).map (fun k => by8 ad k &&& 255)
theorem addrL_len (ad : Int64) (n : Nat) : (addrL ad n).length = n := by simp [addrL]
theorem addrL_s (ad : Int64) (n : Nat) : addrL ad (n + 1) = addrL ad n ++ [by8 ad n &&& 255] := by simp [addrL, List.range_succ]
theorem adF_l (ad : Int64) (g : Nat → Int32) (l : List Int32) (hl : l.length ≤ 200) : ∀ k, k ≤ 8 → adF ad (lstF g l) l.length k = (lstF g (l ++ addrL ad k), (l ++ addrL ad k).length)
  | 0, _ => by simp [adF, addrL]
  | k + 1, hk => by
    have hL : (l ++ addrL ad k).length < 300 := by rw [List.length_append, addrL_len]; omega
    rw [adF, adF_l ad g l hl k (by omega), addrL_s, ← List.append_assoc]
    rw [show rNum (l ++ addrL ad k).length = (l ++ addrL ad k).length + 1 from if_pos hL, show rAdd (lstF g (l ++ addrL ad k)) (l ++ addrL ad k).length (by8 ad k) = _ from (if_pos hL).trans (lstF_add ..)]
    rw [List.length_append (as := l ++ addrL ad k)]
    rfl
def pgL (P : Nat → Int32) (n : Nat) : List Int32 := (List.range n).map (fun k => P k &&& 255)
theorem pgL_len (P : Nat → Int32) (n : Nat) : (pgL P n).length = n := by simp [pgL]
theorem pgL_s (P : Nat → Int32) (n : Nat) : pgL P (n + 1) = pgL P n ++ [P n &&& 255] := by simp [pgL, List.range_succ]
def lenC (N : Nat) (mo : Bool) : Int32 := 15 + nI N + if mo then 1 else 0
def hdC (ad : Int64) (pr ac x : Int32) : List Int32 := [] ++ [104 &&& 255] ++ [x &&& 255] ++ [x &&& 255] ++ [104 &&& 255] ++ [8 &&& 255] ++ [pr &&& 255] ++ [114 &&& 255] ++ addrL ad 8 ++ [ac &&& 255] ++ pgL (fun _ => 0) 3
theorem hdC_len (ad : Int64) (pr ac x : Int32) : (hdC ad pr ac x).length = 19 := by simp [hdC, addrL_len, pgL_len]
def bodyC (ad : Int64) (pr ac : Int32) (P : Nat → Int32) (N : Nat) (mo : Bool) : List Int32 := hdC ad pr ac (lenC N mo) ++ pgL P N ++ if mo then [31 &&& 255] else []
def finC (g : Nat → Int32) (l : List Int32) : List Int32 := l ++ [(sumR (lstF g l) 4 (l.length - 4) &&& 255) &&& 255] ++ [22 &&& 255]
section Met
variable {w : Wd} {c : Nat → ClassId} {h : PH} {m an aa pg sz t n j N : Nat} {ad : Int64} {pr se bt ac : Int32} {g s P : Nat → Int32} {gp : Nat → Option Nat} {l : List Int32}
section Rows
variable {z : Fx} {cc : ByteArray} {kc ks pc : Nat} {L : List (Option Value)} {st : List Value} {lvl : Nat}
theorem k_addX (C : Cx z RX2 cc gw) (Y : Cty z c) (hW : Wc w c) (E : Cs z w lvl (40 * lvl)) (hl : 0 < lvl) (n0 : an ≠ aa) (hn : l.length < 300) (x : Int32) (d : decode cc pc = .ok (.invokevirtual 80, 3)) (hcat : (st.map fun v => v.category).sum ≤ 8)
    (k : X z kc ks (EQ (rl c h an aa g (l ++ [x &&& 255]))) (pc + 3) L st) : X z kc ks (EQ (rl c h an aa g l)) pc L (.int x :: .ref an :: st) := by
  have R : RW c (rl c h an aa g l) an aa (lstF g l) l.length := rl_RW n0 (by omega)
  have ra := r_add hW R x
  rw [rl_add n0 hn x] at ra
  exact u_callV (st := st) C Y hW E ra md_X5_add wi_X5_add ws_X5_add wm_X2_80 d rfl hl (by decide) R.2.1 rfl rfl hcat k
end Rows
theorem t_writeX (hX : Wx w c) (B : h m = some (mF ad pr se pg sz (nI j) bt ac)) (hj : j < 3) (Bs : h sz = some (.inl (c 0, 3, .inl s))) (hN : s j = nI N) (N60 : N ≤ 60) (Bp : h pg = some (.inl (c 5, 3, .inr (.inr (.inr (.inr gp)))))) (gt : gp j = some t) (Bt : h t = some (.inl (c 0, 60, .inl P))) (R : RW c h an aa g n)
    (am : m ≠ an ∧ m ≠ aa) (az : sz ≠ an ∧ sz ≠ aa) (ap : pg ≠ an ∧ pg ≠ aa) (at_ : t ≠ an ∧ t ≠ aa) :
    TC w yX2_writeAnswer cX2_writeAnswer 6 none 3 [.ref m, .ref an] h none (rl c h an aa g (finC g (bodyC ad pr ac P N (decide (nI j + 1 < mPages s))))) := by
  have hW := hX.1
  have n0 := R.1
  refine TC.intro hW rfl (by decide +kernel) (Nat.le_of_ble_eq_true rfl) (fun z C Y E hn => ?_)
  obtain ⟨t5, ht5⟩ : ∃ t : Nat, z.tys[t]? = some (c 5, .array .int) := by rw [E.2.2.2.1]; exact hX.2.2.2.2.2
  have Br : ∀ l, rl c h an aa g l m = some (mF ad pr se pg sz (nI j) bt ac) := fun l => (rw_ne am.1 am.2).trans B
  have Bsr : ∀ l, rl c h an aa g l sz = some (.inl (c 0, 3, .inl s)) := fun l => (rw_ne az.1 az.2).trans Bs
  have Bpr : ∀ l, rl c h an aa g l pg = some (.inl (c 5, 3, .inr (.inr (.inr (.inr gp))))) := fun l => (rw_ne ap.1 ap.2).trans Bp
  have Btr : ∀ l, rl c h an aa g l t = some (.inl (c 0, 60, .inl P)) := fun l => (rw_ne at_.1 at_.2).trans Bt
  generalize hmo : decide (nI j + 1 < mPages s) = mo at E
  have T39 : ∀ x3 : Int32, (x3 = 0 ↔ mo = false) → X z 0 0 (EQ h) 39 [some (.ref m), some (.ref an), some (.int (nI j)), none, none, none] [.int x3] := fun x3 hx3 => by
    refine o_istore_nE (L' := [some _, some _, some _, some _, none, none]) C dX2_writeAnswer_39 (by rw [hn]; decide) rfl ?_
    refine x_bipush (v := 15) C dX2_writeAnswer_40 (by decide) ?_
    refine x_aload_n C dX2_writeAnswer_42 rfl ?_
    refine e_get C Y kd_X2 4 (by decide) wf_X2_20 dX2_writeAnswer_43 B rfl ?_
    refine x_iload_n C dX2_writeAnswer_46 rfl ?_
    refine e_ild C Y dX2_writeAnswer_47 Bs (vp_in_nI hj (by decide)) ?_
    refine x_iadd C dX2_writeAnswer_48 ?_
    refine x_iload_n C dX2_writeAnswer_49 rfl ?_
    rw [nI_clamp (by omega), hN]
    have T58 : ∀ x : Int32, (x = if mo then 1 else 0) → X z 0 0 (EQ h) 58 [some (.ref m), some (.ref an), some (.int (nI j)), some (.int x3), none, none] [.int x, .int (15 + nI N)] := fun x hx => by
      refine x_iadd C dX2_writeAnswer_58 ?_
      rw [hx, show (15 : Int32) + nI N + (if mo then 1 else 0) = lenC N mo from rfl]
      refine o_istoreE (L' := [some _, some _, some _, some _, some _, none]) C dX2_writeAnswer_59 (by rw [hn]; decide) rfl ?_
      have rc := r_cutTo hW R 0
      have e0 : rCut n 0 = 0 := by
        unfold rCut
        split
        · rfl
        · rename_i q
          exact Decidable.byContradiction fun q2 => q ⟨Int32.le_refl _, nI_lt (a := 0) (show 0 < n by omega) (by have := R.2.2.2; omega)⟩
      rw [e0, show rowh c h an aa g 0 = rl c h an aa g [] from by show _ = rowh c h an aa (lstF g []) 0; rw [lstF_nil]] at rc
      refine x_aload_n C dX2_writeAnswer_61 rfl ?_
      refine x_iconst (v := 0) C dX2_writeAnswer_62 (by decide) ?_
      refine u_callV (st := []) C Y hW E.cs rc md_X5_cutTo wi_X5_cutTo ws_X5_cutTo wm_X2_76 dX2_writeAnswer_63 rfl (by decide) (by decide) R.2.1 rfl rfl (by decide) ?_
      refine x_aload_n C dX2_writeAnswer_66 rfl ?_
      refine x_bipush (v := 104) C dX2_writeAnswer_67 (by decide) ?_
      refine k_addX (st := []) C Y hW E.cs (by decide) n0 (by simp) _ dX2_writeAnswer_69 (by decide) ?_
      refine x_aload_n C dX2_writeAnswer_72 rfl ?_
      refine x_iload C dX2_writeAnswer_73 rfl ?_
      refine k_addX (st := []) C Y hW E.cs (by decide) n0 (by simp) _ dX2_writeAnswer_75 (by decide) ?_
      refine x_aload_n C dX2_writeAnswer_78 rfl ?_
      refine x_iload C dX2_writeAnswer_79 rfl ?_
      refine k_addX (st := []) C Y hW E.cs (by decide) n0 (by simp) _ dX2_writeAnswer_81 (by decide) ?_
      refine x_aload_n C dX2_writeAnswer_84 rfl ?_
      refine x_bipush (v := 104) C dX2_writeAnswer_85 (by decide) ?_
      refine k_addX (st := []) C Y hW E.cs (by decide) n0 (by simp) _ dX2_writeAnswer_87 (by decide) ?_
      refine x_aload_n C dX2_writeAnswer_90 rfl ?_
      refine x_bipush (v := 8) C dX2_writeAnswer_91 (by decide) ?_
      refine k_addX (st := []) C Y hW E.cs (by decide) n0 (by simp) _ dX2_writeAnswer_93 (by decide) ?_
      refine x_aload_n C dX2_writeAnswer_96 rfl ?_
      refine x_aload_n C dX2_writeAnswer_97 rfl ?_
      refine e_get C Y kd_X2 1 (by decide) wf_X2_34 dX2_writeAnswer_98 (Br _) rfl ?_
      refine k_addX (st := []) C Y hW E.cs (by decide) n0 (by simp) _ dX2_writeAnswer_101 (by decide) ?_
      refine x_aload_n C dX2_writeAnswer_104 rfl ?_
      refine x_bipush (v := 114) C dX2_writeAnswer_105 (by decide) ?_
      refine k_addX (st := []) C Y hW E.cs (by decide) n0 (by simp) _ dX2_writeAnswer_107 (by decide) ?_
      have e7 : ([] ++ [104 &&& 255] ++ [lenC N mo &&& 255] ++ [lenC N mo &&& 255] ++ [104 &&& 255] ++ [8 &&& 255] ++ [pr &&& 255] ++ [114 &&& 255] : List Int32).length = 7 := rfl
      generalize hl7 : ([] ++ [104 &&& 255] ++ [lenC N mo &&& 255] ++ [lenC N mo &&& 255] ++ [104 &&& 255] ++ [8 &&& 255] ++ [pr &&& 255] ++ [114 &&& 255] : List Int32) = l7 at e7 ⊢
      have R7 : RW c (rl c h an aa g l7) an aa (lstF g l7) l7.length := rl_RW n0 (by omega)
      have ra := r_addAddress hW R7 ad
      rw [adF_l ad g l7 (by omega) 8 (Nat.le_refl _), rw_rw n0] at ra
      refine x_aload_n C dX2_writeAnswer_110 rfl ?_
      refine x_aload_n C dX2_writeAnswer_111 rfl ?_
      refine e_get C Y kd_X2 0 (by decide) wf_X2_37 dX2_writeAnswer_112 (Br _) rfl ?_
      refine u_callV (st := []) C Y hW E.cs ra md_X5_addAddress wi_X5_addAddress ws_X5_addAddress wm_X2_83 dX2_writeAnswer_115 rfl (by decide) (by decide) R7.2.1 rfl rfl (by decide) ?_
      have e15 : (l7 ++ addrL ad 8).length = 15 := by rw [List.length_append, e7, addrL_len]
      refine x_aload_n C dX2_writeAnswer_118 rfl ?_
      refine x_aload_n C dX2_writeAnswer_119 rfl ?_
      refine e_get C Y kd_X2 7 (by decide) wf_X2_31 dX2_writeAnswer_120 (Br (l7 ++ addrL ad 8)) rfl ?_
      refine k_addX (l := l7 ++ addrL ad 8) (st := []) C Y hW E.cs (by decide) n0 (by omega) _ dX2_writeAnswer_123 (by decide) ?_
      have e16 : (l7 ++ addrL ad 8 ++ [ac &&& 255]).length = 16 := by rw [List.length_append, e15]; rfl
      have T196 : ∀ (l : List Int32) (l5 : Option Value), 4 ≤ l.length → l.length ≤ 80 → l = bodyC ad pr ac P N mo → X z 0 0 (EQ (rl c h an aa g l)) 196 [some (.ref m), some (.ref an), some (.int (nI j)), some (.int x3), some (.int (lenC N mo)), l5] [] := fun l l5 hl4 hl el => by
        have Rl : RW c (rl c h an aa g l) an aa (lstF g l) l.length := rl_RW n0 (by omega)
        have rs := r_sum hW Rl 4 l.length (by decide) (by omega)
        rw [Nat.min_self] at rs
        refine x_aload_n C dX2_writeAnswer_196 rfl ?_
        refine x_aload_n C dX2_writeAnswer_197 rfl ?_
        refine x_iconst (v := 4) C dX2_writeAnswer_198 (by decide) ?_
        refine x_aload_n C dX2_writeAnswer_199 rfl ?_
        refine u_callV (st := [.int 4, .ref an, .ref an]) C Y hW E.cs (r_size hW Rl) md_X5_size wi_X5_size ws_X5_size wm_X2_41 dX2_writeAnswer_200 rfl (by decide) (by decide) Rl.2.1 rfl rfl (by simp [Value.category]) ?_
        refine u_callV (st := [.ref an]) C Y hW E.cs rs md_X5_sum wi_X5_sum ws_X5_sum wm_X2_87 dX2_writeAnswer_203 rfl (by decide) (by decide) Rl.2.1 rfl rfl (by simp [Value.category]) ?_
        refine k_addX (st := []) C Y hW E.cs (by decide) n0 (by omega) _ dX2_writeAnswer_206 (by decide) ?_
        refine x_aload_n C dX2_writeAnswer_209 rfl ?_
        refine x_bipush (v := 22) C dX2_writeAnswer_210 (by decide) ?_
        refine k_addX (st := []) C Y hW E.cs (by decide) n0 (by rw [List.length_append, List.length_singleton]; omega) _ dX2_writeAnswer_212 (by decide) ?_
        exact e_vret C E dX2_writeAnswer_215 rfl (by rw [← el]; rfl)
      have T186 : ∀ (l : List Int32) (l5 : Option Value), l = hdC ad pr ac (lenC N mo) ++ pgL P N → X z 0 0 (EQ (rl c h an aa g l)) 186 [some (.ref m), some (.ref an), some (.int (nI j)), some (.int x3), some (.int (lenC N mo)), l5] [] := fun l l5 el => by
        have hl : l.length = 19 + N := by rw [el, List.length_append, hdC_len, pgL_len]
        refine x_iload_n C dX2_writeAnswer_186 rfl ?_
        refine x_if_eq (tgt := 196) C dX2_writeAnswer_187 (by decide) (fun q => T196 l l5 (by omega) (by omega) (by rw [el, bodyC, hx3.mp q]; simp)) (fun q => ?_)
        have hmt : mo = true := by cases mo with
          | true => rfl
          | false => exact absurd (hx3.mpr rfl) q
        refine x_aload_n C dX2_writeAnswer_190 rfl ?_
        refine x_bipush (v := 31) C dX2_writeAnswer_191 (by decide) ?_
        refine k_addX (st := []) C Y hW E.cs (by decide) n0 (by omega) _ dX2_writeAnswer_193 (by decide) ?_
        exact T196 _ l5 (by rw [List.length_append, List.length_singleton]; omega) (by rw [List.length_append, List.length_singleton]; omega) (by rw [el, bodyC, hmt]; simp)
      have LP : ∀ (r i : Nat) (l : List Int32), i + r = N → l = hdC ad pr ac (lenC N mo) ++ pgL P i → X z 0 0 (EQ (rl c h an aa g l)) 149 [some (.ref m), some (.ref an), some (.int (nI j)), some (.int x3), some (.int (lenC N mo)), some (.int (nI i))] [] := by
        intro r
        induction r with
        | zero =>
          intro i l hi el
          obtain rfl : i = N := by omega
          refine x_iload C dX2_writeAnswer_149 rfl ?_
          refine x_aload_n C dX2_writeAnswer_151 rfl ?_
          refine e_get C Y kd_X2 4 (by decide) wf_X2_20 dX2_writeAnswer_152 (Br _) rfl ?_
          refine x_iload_n C dX2_writeAnswer_155 rfl ?_
          refine e_ild C Y dX2_writeAnswer_156 (Bsr _) (vp_in_nI hj (by decide)) ?_
          rw [nI_clamp (by omega), hN]
          exact x_icmp_ge (tgt := 186) C dX2_writeAnswer_157 (by decide) (fun _ => T186 l _ el) (fun q => absurd (Int32.le_refl _) q)
        | succ r ih =>
          intro i l hi el
          have hl : l.length = 19 + i := by rw [el, List.length_append, hdC_len, pgL_len]
          refine x_iload C dX2_writeAnswer_149 rfl ?_
          refine x_aload_n C dX2_writeAnswer_151 rfl ?_
          refine e_get C Y kd_X2 4 (by decide) wf_X2_20 dX2_writeAnswer_152 (Br _) rfl ?_
          refine x_iload_n C dX2_writeAnswer_155 rfl ?_
          refine e_ild C Y dX2_writeAnswer_156 (Bsr _) (vp_in_nI hj (by decide)) ?_
          rw [nI_clamp (by omega), hN]
          refine x_icmp_ge (tgt := 186) C dX2_writeAnswer_157 (by decide) (fun q => absurd q (Int32.not_le.mpr (nI_lt (show i < N by omega) (by omega)))) (fun _ => ?_)
          refine x_iload C dX2_writeAnswer_160 rfl ?_
          refine x_bipush (v := 60) C dX2_writeAnswer_162 (by decide) ?_
          refine x_icmp_ge (tgt := 186) C dX2_writeAnswer_164 (by decide) (fun q => absurd q (Int32.not_le.mpr (nI_lt (show i < 60 by omega) (by decide)))) (fun _ => ?_)
          refine x_aload_n C dX2_writeAnswer_167 rfl ?_
          refine x_aload_n C dX2_writeAnswer_168 rfl ?_
          refine e_get C Y kd_X2 3 (by decide) wf_X2_17 dX2_writeAnswer_169 (Br _) rfl ?_
          refine x_iload_n C dX2_writeAnswer_172 rfl ?_
          refine e_ald2 C ht5 dX2_writeAnswer_173 (Bpr _) rfl hj (by decide) gt ?_
          refine x_iload C dX2_writeAnswer_174 rfl ?_
          refine e_ild C Y dX2_writeAnswer_176 (Btr _) (vp_in_nI (show i < 60 by omega) (by decide)) ?_
          rw [nI_clamp (by omega)]
          refine k_addX (st := []) C Y hW E.cs (by decide) n0 (by omega) _ dX2_writeAnswer_177 (by decide) ?_
          refine o_iincE (v := nI (i + 1)) (L' := [some _, some _, some _, some _, some _, some _]) C dX2_writeAnswer_180 rfl (nI_1 i) (by rw [hn]; decide) rfl ?_
          refine x_goto (tgt := 149) C dX2_writeAnswer_183 (by decide) ?_
          exact ih (i + 1) _ (by omega) (by rw [el, pgL_s, List.append_assoc])
      have LZ3 : ∀ (r i : Nat) (l : List Int32), i + r = 3 → l = l7 ++ addrL ad 8 ++ [ac &&& 255] ++ pgL (fun _ => 0) i → X z 0 0 (EQ (rl c h an aa g l)) 129 [some (.ref m), some (.ref an), some (.int (nI j)), some (.int x3), some (.int (lenC N mo)), some (.int (nI i))] [] := by
        intro r
        induction r with
        | zero =>
          intro i l hi el
          obtain rfl : i = 3 := by omega
          refine x_iload C dX2_writeAnswer_129 rfl ?_
          refine x_iconst (v := 3) C dX2_writeAnswer_131 (by decide) ?_
          refine x_icmp_ge (tgt := 146) C dX2_writeAnswer_132 (by decide) (fun _ => ?_) (fun q => absurd (Int32.le_refl _) q)
          refine x_iconst (v := 0) C dX2_writeAnswer_146 (by decide) ?_
          refine o_istoreE (L' := [some _, some _, some _, some _, some _, some _]) C dX2_writeAnswer_147 (by rw [hn]; decide) rfl ?_
          exact LP N 0 l (by omega) (by rw [el, ← hl7]; simp [hdC, pgL])
        | succ r ih =>
          intro i l hi el
          have hl : l.length = 16 + i := by rw [el, List.length_append, e16, pgL_len]
          refine x_iload C dX2_writeAnswer_129 rfl ?_
          refine x_iconst (v := 3) C dX2_writeAnswer_131 (by decide) ?_
          refine x_icmp_ge (tgt := 146) C dX2_writeAnswer_132 (by decide) (fun q => absurd q (Int32.not_le.mpr (nI_lt (show i < 3 by omega) (by decide)))) (fun _ => ?_)
          refine x_aload_n C dX2_writeAnswer_135 rfl ?_
          refine x_iconst (v := 0) C dX2_writeAnswer_136 (by decide) ?_
          refine k_addX (st := []) C Y hW E.cs (by decide) n0 (by omega) _ dX2_writeAnswer_137 (by decide) ?_
          refine o_iincE (v := nI (i + 1)) (L' := [some _, some _, some _, some _, some _, some _]) C dX2_writeAnswer_140 rfl (nI_1 i) (by rw [hn]; decide) rfl ?_
          refine x_goto (tgt := 129) C dX2_writeAnswer_143 (by decide) ?_
          exact ih (i + 1) _ (by omega) (by rw [el, pgL_s, List.append_assoc])
      refine x_iconst (v := 0) C dX2_writeAnswer_126 (by decide) ?_
      refine o_istoreE (L' := [some _, some _, some _, some _, some _, some _]) C dX2_writeAnswer_127 (by rw [hn]; decide) rfl ?_
      exact LZ3 3 0 _ rfl (by simp [pgL])
    refine x_if_eq (tgt := 57) C dX2_writeAnswer_50 (by decide) (fun q => ?_) (fun q => ?_)
    · exact x_iconst (v := 0) C dX2_writeAnswer_57 (by decide) (T58 _ (by rw [hx3.mp q]; rfl))
    · refine x_iconst (v := 1) C dX2_writeAnswer_53 (by decide) ?_
      refine x_goto (tgt := 58) C dX2_writeAnswer_54 (by decide) (T58 _ ?_)
      cases mo with
      | true => rfl
      | false => exact absurd (hx3.mpr rfl) q
  have T23 : X z 0 0 (EQ h) 23 [some (.ref m), some (.ref an), none, none, none, none] [.int (nI j)] := by
    refine o_istore_nE (L' := [some _, some _, some _, none, none, none]) C dX2_writeAnswer_23 (by rw [hn]; decide) rfl ?_
    refine x_iload_n C dX2_writeAnswer_24 rfl ?_
    refine x_iconst (v := 1) C dX2_writeAnswer_25 (by decide) ?_
    refine x_iadd C dX2_writeAnswer_26 ?_
    refine x_aload_n C dX2_writeAnswer_27 rfl ?_
    refine u_callV (st := [_]) C Y hW E.cs (t_pageNumber hW B Bs) md_X2_pageNumber wi_X2_pageNumber ws_X2_pageNumber wm_X2_57 dX2_writeAnswer_28 rfl (by decide) (by decide) B rfl rfl (by simp [Value.category]) ?_
    refine x_icmp_ge (tgt := 38) C dX2_writeAnswer_31 (by decide) (fun q => ?_) (fun q => ?_)
    · refine x_iconst (v := 0) C dX2_writeAnswer_38 (by decide) (T39 _ ⟨fun _ => ?_, fun _ => rfl⟩)
      rw [← hmo]
      exact decide_eq_false (Int32.not_lt.mpr q)
    · refine x_iconst (v := 1) C dX2_writeAnswer_34 (by decide) ?_
      refine x_goto (tgt := 39) C dX2_writeAnswer_35 (by decide) (T39 _ ⟨fun q1 => absurd q1 (by decide), fun q1 => ?_⟩)
      rw [← hmo] at q1
      exact absurd (Int32.not_le.mp q) (of_decide_eq_false q1)
  refine x_aload_n C dX2_writeAnswer_0 rfl ?_
  refine e_get C Y kd_X2 5 (by decide) wf_X2_24 dX2_writeAnswer_1 B rfl ?_
  refine x_if_lt (tgt := 22) C dX2_writeAnswer_4 (by decide) (fun q => absurd q (nI_pos (by omega))) (fun q1 => ?_)
  refine x_aload_n C dX2_writeAnswer_7 rfl ?_
  refine e_get C Y kd_X2 5 (by decide) wf_X2_24 dX2_writeAnswer_8 B rfl ?_
  refine x_iconst (v := 3) C dX2_writeAnswer_11 (by decide) ?_
  refine x_icmp_ge (tgt := 22) C dX2_writeAnswer_12 (by decide) (fun q => absurd q (Int32.not_le.mpr (nI_lt hj (by decide)))) (fun q2 => ?_)
  refine x_aload_n C dX2_writeAnswer_15 rfl ?_
  refine e_get C Y kd_X2 5 (by decide) wf_X2_24 dX2_writeAnswer_16 B rfl ?_
  exact x_goto (tgt := 23) C dX2_writeAnswer_19 (by decide) T23
end Met
