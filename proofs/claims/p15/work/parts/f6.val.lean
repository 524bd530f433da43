/-! The decoder against the model: a value. -/
section Dec
variable {w : Wd} {c : Nat → ClassId} {h h0 g : PH} {li de p v b ba nb r : Nat} {fb : Nat → Int32} {lt : Value} {S : MS}
theorem d_valueX (hX : Wx w c) (F : FX c de p v b ba h0 fb nb) (L : LF c de p v b ba h0 lt) (D : DX c li de p v b h0 r lt S h) {i m cc : Nat} (A : DA fb nb S i m r) (h33 : S.a 33 r = 0) (h25 : S.a 25 r = nI cc) (hcc : cc ≤ 14) (er : f_r S = r) (htx : f_tx S < 2 ^ 31) (sta : Int32) : T w gw yX1_readValue cX1_readValue 4 (some .boolean) 4 (40 * 4) 1 (min (tsv fb (nI cc) i) (m - i)) [.ref de, .ref p, .int sta] (EQ h)
    (fun q g => (q = some (.int 1) ∧ cc ≠ 8 ∧ (f_value S cc).i 41 = 0 ∧ (∃ j, i + tsv fb (nI cc) i ≤ j ∧ j ≤ m ∧ (f_value S cc).i 40 = nI j) ∧ DC c li de p v b h0 r lt (f_value S cc) g) ∨ (q = some (.int 0) ∧ (cc = 8 ∨ ¬ (f_value S cc).i 41 = 0) ∧ DFx c li de p v b h0 lt g)) := by
  have hW := hX.1
  refine TA.intro hW rfl (by decide +kernel) (Nat.le_of_ble_eq_true rfl) (fun z C Y E hn h1 hA => ?_)
  rw [show h1 = h from hA]
  clear hA
  obtain ⟨⟨fa, pl, B⟩, Bp, ⟨fv0, d3, d3'⟩, d4⟩ := id D
  obtain ⟨A1, A2, A3, A4, A5, A6, A7, A8, A9, A10⟩ := id A
  have dw := D.df A
  rw [h25] at Bp
  obtain ⟨-, fat, fen⟩ := WFp.of A3 A4 A5 (by omega)
  have fN : cc ≠ 13 → f_value S cc = f_valN S i m r cc (f_size cc) := fun n => by unfold f_value; rw [if_neg n, fat, fen, er]
  refine x_aload_n C dX1_readValue_0 rfl ?_
  refine u_callV (st := []) C Y hW E.cs (q_codeOf hW Bp) md_X3_codeOf wi_X3_codeOf ws_X3_codeOf wm_X1_101 dX1_readValue_1 rfl (by decide) (by decide) Bp rfl rfl (by decide) ?_
  refine o_istore_nE (L' := [some _, some _, some _, some _]) C dX1_readValue_4 (by rw [hn]; decide) rfl ?_
  refine x_iload_n C dX1_readValue_5 rfl ?_
  have Tnum : ∀ (s pc : Nat) (x : Int32), s ≤ 8 → tsv fb (nI cc) i = 0 → x = nI s → cc < 8 → f_size cc = s → decode cX1_readValue pc = .ok (.invokevirtual 127, 3) → decode cX1_readValue (pc + 3) = .ok (.ireturn, 1) → X z 0 0 (EQ h) pc [some (.ref de), some (.ref p), some (.int sta), some (.int (nI cc))] [.int x, .ref p, .ref de] := fun s pc x hs8 ht ex c8 es d1 d2 => by
    subst ex
    have fv := fN (by omega)
    rw [es] at fv
    unfold f_valN at fv
    rw [if_pos c8] at fv
    refine k_callR (kc := 0) (ks := 0) (mc' := 0) (ms' := 0) (st := []) C Y hW E.cs (d_numberX hW F D A (s := s) hs8) rfl md_X1_readNumber wi_X1_readNumber ws_X1_readNumber wm_X1_127 d1 rfl (by decide) (by decide) B rfl rfl (by decide) (fun rr g hg => ?_)
    rcases hg with ⟨rfl, j1, Dg⟩ | ⟨rfl, j1, Dg⟩
    · refine x_zret C E d2 (by decide) (fun q e => ?_)
      rw [if_pos j1] at fv
      rw [show q = _ from e, fv]
      exact Or.inl ⟨rfl, by omega, A8, ⟨i + s, by omega, j1, rfl⟩, Dg.dc L rfl rfl rfl (by rw [MS.sw_w, if_pos ⟨rfl, rfl⟩]) rfl (fun _ _ _ _ => rfl) h33⟩
    · refine x_zret C E d2 (by decide) (fun q e => ?_)
      rw [if_neg j1] at fv
      rw [show q = _ from e, fv]
      exact Or.inr ⟨rfl, Or.inr (bl_no A8 (by decide)), Dg⟩
  have Tbcd : ∀ (s pc : Nat) (x : Int32), 1 ≤ s → s ≤ 9 → tsv fb (nI cc) i = 0 → x = nI s → 8 < cc → cc ≠ 13 → f_size cc = s → decode cX1_readValue pc = .ok (.invokevirtual 130, 3) → decode cX1_readValue (pc + 3) = .ok (.ireturn, 1) → X z 0 0 (EQ h) pc [some (.ref de), some (.ref p), some (.int sta), some (.int (nI cc))] [.int x, .ref p, .ref de] := fun s pc x hs1 hs8 ht ex c8 c13 es d1 d2 => by
    subst ex
    have fv := fN c13
    rw [es] at fv
    unfold f_valN at fv
    rw [if_neg (show ¬ cc < 8 by omega)] at fv
    refine k_callR (kc := 0) (ks := 0) (mc' := 0) (ms' := 0) (st := []) C Y hW E.cs (d_signedX hX F D A hs1 hs8) rfl md_X1_readSignedBcd wi_X1_readSignedBcd ws_X1_readSignedBcd wm_X1_130 d1 rfl (by decide) (by decide) B rfl rfl (by decide) (fun rr g hg => ?_)
    rcases hg with ⟨rfl, j1, j2, Dg⟩ | ⟨rfl, j1, Dg⟩
    · refine x_zret C E d2 (by decide) (fun q e => ?_)
      rw [if_pos j1] at fv
      unfold f_digS at fv
      rw [dg_ok _ j2] at fv
      rw [show q = _ from e, fv]
      exact Or.inl ⟨rfl, by omega, A8, ⟨i + s, by omega, j1, rfl⟩, Dg.dc L rfl rfl rfl (by rw [MS.sw_w, if_pos ⟨rfl, rfl⟩]) rfl (fun _ _ _ _ => rfl) h33⟩
    · refine x_zret C E d2 (by decide) (fun q e => ?_)
      rw [show q = _ from e]
      refine Or.inr ⟨rfl, Or.inr ?_, Dg⟩
      rw [fv]
      by_cases q9 : i + s ≤ m
      · rw [if_pos q9]
        have := dg_bad A8 _ (j1.resolve_left (fun y => y q9))
        unfold f_digS
        rw [MS.sw_i, MS.si_i, if_neg (by decide)]
        exact this
      · rw [if_neg q9]
        exact bl_no A8 (by decide)
  have Tdef : cc = 8 → X z 0 0 (EQ h) 136 [some (.ref de), some (.ref p), some (.int sta), some (.int (nI cc))] [] := fun c8 => by
    refine x_aload_n C dX1_readValue_136 rfl ?_
    refine x_bipush (v := 9) C dX1_readValue_137 (by decide) ?_
    refine x_iload_n C dX1_readValue_139 rfl ?_
    refine u_callV (st := []) C Y hW E.cs (d_wrong hW B 9 _) md_X1_wrong wi_X1_wrong ws_X1_wrong wm_X1_67 dX1_readValue_140 rfl (by decide) (by decide) B rfl rfl (by decide) ?_
    exact x_zret C E dX1_readValue_143 (by decide) (fun q e => by rw [show q = _ from e]; exact Or.inr ⟨rfl, Or.inl c8, dw.setD F _ _ _ _ _ A9⟩)
  rcases (show cc = 0 ∨ cc = 1 ∨ cc = 2 ∨ cc = 3 ∨ cc = 4 ∨ cc = 5 ∨ cc = 6 ∨ cc = 7 ∨ cc = 8 ∨ cc = 9 ∨ cc = 10 ∨ cc = 11 ∨ cc = 12 ∨ cc = 13 ∨ cc = 14 by omega) with rfl | rfl | rfl | rfl | rfl | rfl | rfl | rfl | rfl | rfl | rfl | rfl | rfl | rfl | rfl
  · refine x_tblIn (tgt := 80) (off := 74) C dX1_readValue_6 (by decide) (by decide) (by decide) (by decide) ?_
    refine x_iconst (v := 1) C dX1_readValue_80 (by decide) ?_
    refine x_zret C E dX1_readValue_81 (by decide) (fun q e => ?_)
    rw [show q = _ from e]
    have fv := fN (by decide)
    unfold f_valN at fv
    rw [if_pos (show 0 < 8 by decide), show f_size 0 = 0 from rfl, if_pos (show i + 0 ≤ m by omega)] at fv
    rw [fv]
    have Dv : DVx c li de p v b h0 r lt S 0 (nI i) h := ⟨⟨fa, pl, by rw [← A3]; exact B⟩, by rw [h25]; exact Bp, ⟨fv0, d3, d3'⟩, d4⟩
    exact Or.inl ⟨rfl, by decide, A8, ⟨i, by rw [show tsv fb _ i = 0 from if_neg (by decide)]; omega, A5, rfl⟩, Dv.dc L rfl rfl rfl (by rw [MS.sw_w, if_pos ⟨rfl, rfl⟩]; rfl) rfl (fun _ _ _ _ => rfl) h33⟩
  · refine x_tblIn (tgt := 82) (off := 76) C dX1_readValue_6 (by decide) (by decide) (by decide) (by decide) ?_
    refine X.room (kc' := 0) (ks' := 0) ?_ (Nat.zero_le _) (Nat.zero_le _)
    refine x_aload_n C dX1_readValue_82 rfl ?_
    refine x_aload_n C dX1_readValue_83 rfl ?_
    refine x_iload_n C dX1_readValue_84 rfl ?_
    exact Tnum 1 85 _ (by decide) (show tsv fb _ i = 0 from if_neg (by decide)) rfl (by decide) rfl dX1_readValue_85 dX1_readValue_88
  · refine x_tblIn (tgt := 82) (off := 76) C dX1_readValue_6 (by decide) (by decide) (by decide) (by decide) ?_
    refine X.room (kc' := 0) (ks' := 0) ?_ (Nat.zero_le _) (Nat.zero_le _)
    refine x_aload_n C dX1_readValue_82 rfl ?_
    refine x_aload_n C dX1_readValue_83 rfl ?_
    refine x_iload_n C dX1_readValue_84 rfl ?_
    exact Tnum 2 85 _ (by decide) (show tsv fb _ i = 0 from if_neg (by decide)) rfl (by decide) rfl dX1_readValue_85 dX1_readValue_88
  · refine x_tblIn (tgt := 82) (off := 76) C dX1_readValue_6 (by decide) (by decide) (by decide) (by decide) ?_
    refine X.room (kc' := 0) (ks' := 0) ?_ (Nat.zero_le _) (Nat.zero_le _)
    refine x_aload_n C dX1_readValue_82 rfl ?_
    refine x_aload_n C dX1_readValue_83 rfl ?_
    refine x_iload_n C dX1_readValue_84 rfl ?_
    exact Tnum 3 85 _ (by decide) (show tsv fb _ i = 0 from if_neg (by decide)) rfl (by decide) rfl dX1_readValue_85 dX1_readValue_88
  · refine x_tblIn (tgt := 82) (off := 76) C dX1_readValue_6 (by decide) (by decide) (by decide) (by decide) ?_
    refine X.room (kc' := 0) (ks' := 0) ?_ (Nat.zero_le _) (Nat.zero_le _)
    refine x_aload_n C dX1_readValue_82 rfl ?_
    refine x_aload_n C dX1_readValue_83 rfl ?_
    refine x_iload_n C dX1_readValue_84 rfl ?_
    exact Tnum 4 85 _ (by decide) (show tsv fb _ i = 0 from if_neg (by decide)) rfl (by decide) rfl dX1_readValue_85 dX1_readValue_88
  · refine x_tblIn (tgt := 89) (off := 83) C dX1_readValue_6 (by decide) (by decide) (by decide) (by decide) ?_
    refine X.room (kc' := 0) (ks' := 0) ?_ (Nat.zero_le _) (Nat.zero_le _)
    refine x_aload_n C dX1_readValue_89 rfl ?_
    refine x_aload_n C dX1_readValue_90 rfl ?_
    refine x_iconst (v := 4) C dX1_readValue_91 (by decide) ?_
    exact Tnum 4 92 _ (by decide) (show tsv fb _ i = 0 from if_neg (by decide)) rfl (by decide) rfl dX1_readValue_92 dX1_readValue_95
  · refine x_tblIn (tgt := 96) (off := 90) C dX1_readValue_6 (by decide) (by decide) (by decide) (by decide) ?_
    refine X.room (kc' := 0) (ks' := 0) ?_ (Nat.zero_le _) (Nat.zero_le _)
    refine x_aload_n C dX1_readValue_96 rfl ?_
    refine x_aload_n C dX1_readValue_97 rfl ?_
    refine x_bipush (v := 6) C dX1_readValue_98 (by decide) ?_
    exact Tnum 6 100 _ (by decide) (show tsv fb _ i = 0 from if_neg (by decide)) rfl (by decide) rfl dX1_readValue_100 dX1_readValue_103
  · refine x_tblIn (tgt := 104) (off := 98) C dX1_readValue_6 (by decide) (by decide) (by decide) (by decide) ?_
    refine X.room (kc' := 0) (ks' := 0) ?_ (Nat.zero_le _) (Nat.zero_le _)
    refine x_aload_n C dX1_readValue_104 rfl ?_
    refine x_aload_n C dX1_readValue_105 rfl ?_
    refine x_bipush (v := 8) C dX1_readValue_106 (by decide) ?_
    exact Tnum 8 108 _ (by decide) (show tsv fb _ i = 0 from if_neg (by decide)) rfl (by decide) rfl dX1_readValue_108 dX1_readValue_111
  · refine x_tblIn (tgt := 136) (off := 130) C dX1_readValue_6 (by decide) (by decide) (by decide) (by decide) ?_
    exact (Tdef rfl).room (Nat.zero_le _) (Nat.zero_le _)
  · refine x_tblIn (tgt := 112) (off := 106) C dX1_readValue_6 (by decide) (by decide) (by decide) (by decide) ?_
    refine X.room (kc' := 0) (ks' := 0) ?_ (Nat.zero_le _) (Nat.zero_le _)
    refine x_aload_n C dX1_readValue_112 rfl ?_
    refine x_aload_n C dX1_readValue_113 rfl ?_
    refine x_iload_n C dX1_readValue_114 rfl ?_
    refine x_bipush (v := 8) C dX1_readValue_115 (by decide) ?_
    refine x_isub C dX1_readValue_117 ?_
    exact Tbcd 1 118 _ (by decide) (by decide) (show tsv fb _ i = 0 from if_neg (by decide)) (by decide) (by decide) (by decide) rfl dX1_readValue_118 dX1_readValue_121
  · refine x_tblIn (tgt := 112) (off := 106) C dX1_readValue_6 (by decide) (by decide) (by decide) (by decide) ?_
    refine X.room (kc' := 0) (ks' := 0) ?_ (Nat.zero_le _) (Nat.zero_le _)
    refine x_aload_n C dX1_readValue_112 rfl ?_
    refine x_aload_n C dX1_readValue_113 rfl ?_
    refine x_iload_n C dX1_readValue_114 rfl ?_
    refine x_bipush (v := 8) C dX1_readValue_115 (by decide) ?_
    refine x_isub C dX1_readValue_117 ?_
    exact Tbcd 2 118 _ (by decide) (by decide) (show tsv fb _ i = 0 from if_neg (by decide)) (by decide) (by decide) (by decide) rfl dX1_readValue_118 dX1_readValue_121
  · refine x_tblIn (tgt := 112) (off := 106) C dX1_readValue_6 (by decide) (by decide) (by decide) (by decide) ?_
    refine X.room (kc' := 0) (ks' := 0) ?_ (Nat.zero_le _) (Nat.zero_le _)
    refine x_aload_n C dX1_readValue_112 rfl ?_
    refine x_aload_n C dX1_readValue_113 rfl ?_
    refine x_iload_n C dX1_readValue_114 rfl ?_
    refine x_bipush (v := 8) C dX1_readValue_115 (by decide) ?_
    refine x_isub C dX1_readValue_117 ?_
    exact Tbcd 3 118 _ (by decide) (by decide) (show tsv fb _ i = 0 from if_neg (by decide)) (by decide) (by decide) (by decide) rfl dX1_readValue_118 dX1_readValue_121
  · refine x_tblIn (tgt := 112) (off := 106) C dX1_readValue_6 (by decide) (by decide) (by decide) (by decide) ?_
    refine X.room (kc' := 0) (ks' := 0) ?_ (Nat.zero_le _) (Nat.zero_le _)
    refine x_aload_n C dX1_readValue_112 rfl ?_
    refine x_aload_n C dX1_readValue_113 rfl ?_
    refine x_iload_n C dX1_readValue_114 rfl ?_
    refine x_bipush (v := 8) C dX1_readValue_115 (by decide) ?_
    refine x_isub C dX1_readValue_117 ?_
    exact Tbcd 4 118 _ (by decide) (by decide) (show tsv fb _ i = 0 from if_neg (by decide)) (by decide) (by decide) (by decide) rfl dX1_readValue_118 dX1_readValue_121
  · refine x_tblIn (tgt := 130) (off := 124) C dX1_readValue_6 (by decide) (by decide) (by decide) (by decide) ?_
    have e13 : tsv fb (nI 13) i = ts1 fb i := if_pos rfl
    rw [e13]
    rw [e13] at E
    refine x_aload_n C dX1_readValue_130 rfl ?_
    refine x_aload_n C dX1_readValue_131 rfl ?_
    refine X.room (kc' := 0 + 1) (ks' := 0 + min (ts1 fb i) (m - (i + 1))) ?_ (by omega) (by omega)
    have f13 : f_value S 13 = f_valD S i m r (f_tx S) (S.a 38 i).toNatClampNeg := by unfold f_value; rw [if_pos rfl, fat, fen, er]
    refine k_callR (kc := 0) (ks := 0) (st := []) C Y hW E.cs (d_sizedX hX F L D A h33 htx) rfl md_X1_readSized wi_X1_readSized ws_X1_readSized wm_X1_133 dX1_readValue_132 rfl (by decide) (by decide) B rfl rfl (by decide) (fun rr g hg => ?_)
    rw [← f13] at hg
    rcases hg with ⟨rfl, j1, ⟨j, j2, j3, j4⟩, Dg⟩ | ⟨rfl, j1, Dg⟩
    · exact x_zret C E dX1_readValue_135 (by decide) (fun q e => by rw [show q = _ from e]; exact Or.inl ⟨rfl, by decide, j1, ⟨j, by omega, j3, j4⟩, Dg⟩)
    · exact x_zret C E dX1_readValue_135 (by decide) (fun q e => by rw [show q = _ from e]; exact Or.inr ⟨rfl, Or.inr j1, Dg⟩)
  · refine x_tblIn (tgt := 122) (off := 116) C dX1_readValue_6 (by decide) (by decide) (by decide) (by decide) ?_
    refine X.room (kc' := 0) (ks' := 0) ?_ (Nat.zero_le _) (Nat.zero_le _)
    refine x_aload_n C dX1_readValue_122 rfl ?_
    refine x_aload_n C dX1_readValue_123 rfl ?_
    refine x_bipush (v := 6) C dX1_readValue_124 (by decide) ?_
    exact Tbcd 6 126 _ (by decide) (by decide) (show tsv fb _ i = 0 from if_neg (by decide)) rfl (by decide) (by decide) rfl dX1_readValue_126 dX1_readValue_129
end Dec
