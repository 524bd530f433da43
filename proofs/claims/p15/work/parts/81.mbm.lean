/-! MeterBus, a new one: meter. -/
section Calls
variable {w : Wd} {c : Nat → ClassId} {a : Nat → Nat} {h : PH}
theorem m_areDigits (hW : Wc w c) (i : Int32) : TC w yX6_areDigits cX6_areDigits 2 (some .boolean) 0 [.int i] h (some (.int (bI (g_dig i 8 = true)))) h := by
  refine TC.intro hW rfl (by decide +kernel) (Nat.le_of_ble_eq_true rfl) (fun z C Y E hn => ?_)
  have all_ : ∀ {n t : Nat}, t < n → g_dig i n = true → (i >>> (((4 : Int32) * nI t) &&& 31)) &&& 15 < 10 := fun {n t} ht g => by
    have := List.all_eq_true.mp g t (List.mem_range.mpr ht)
    exact of_decide_eq_true this
  have LP : ∀ (r t : Nat), t + r = 8 → g_dig i t = true → X z 0 0 (EQ h) 2 [some (.int i), some (.int (nI (4 * t)))] [] := by
    intro r
    induction r with
    | zero =>
      intro t ht hd
      obtain rfl : t = 8 := by omega
      refine x_iload_n C dX6_areDigits_2 rfl ?_
      refine x_bipush (v := 32) C dX6_areDigits_3 (by decide) ?_
      refine x_icmp_ge (tgt := 27) C dX6_areDigits_5 (by decide) (fun c5 => ?_) (fun c5 => absurd c5 (not_not_intro (Int32.le_refl _)))
      refine x_iconst (v := 1) C dX6_areDigits_27 (by decide) ?_
      refine e_zret C E dX6_areDigits_28 (by decide) ?_ ?_
      all_goals first | exact rfl | exact congrArg (fun x => some (Value.int x)) (bI_t hd).symm
    | succ r ih =>
      intro t ht hd
      refine x_iload_n C dX6_areDigits_2 rfl ?_
      refine x_bipush (v := 32) C dX6_areDigits_3 (by decide) ?_
      refine x_icmp_ge (tgt := 27) C dX6_areDigits_5 (by decide) (fun c5 => absurd c5 (Int32.not_le.mpr (nI_lt (show 4 * t < 32 by omega) (by decide)))) (fun c5 => ?_)
      refine x_iload_n C dX6_areDigits_8 rfl ?_
      refine x_iload_n C dX6_areDigits_9 rfl ?_
      refine x_iushr C dX6_areDigits_10 ?_
      refine x_bipush (v := 15) C dX6_areDigits_11 (by decide) ?_
      refine x_iand C dX6_areDigits_13 ?_
      rw [dig_eq i t (by omega)]
      refine x_bipush (v := 9) C dX6_areDigits_14 (by decide) ?_
      refine x_icmp_le (tgt := 21) C dX6_areDigits_16 (by decide) (fun c16 => ?_) (fun c16 => ?_)
      · have hd1 : g_dig i (t + 1) = true := g_dig_s.mpr ⟨hd, lt10 c16⟩
        refine o_iincE (v := nI (4 * (t + 1))) (L' := [some _, some _]) C dX6_areDigits_21 rfl (by rw [show (Int32.ofInt 4) = nI 4 from rfl, nI_add]; exact congrArg nI (by omega)) (by rw [hn]; decide) rfl ?_
        refine x_goto (tgt := 2) C dX6_areDigits_24 (by decide) ?_
        exact ih (t + 1) (by omega) hd1
      · have hnd : ¬ g_dig i 8 = true := fun g => c16 (le9 (all_ (show t < 8 by omega) g))
        refine x_iconst (v := 0) C dX6_areDigits_19 (by decide) ?_
        refine e_zret C E dX6_areDigits_20 (by decide) ?_ ?_
        all_goals first | exact rfl | exact congrArg (fun x => some (Value.int x)) (bI_f hnd).symm
  refine x_iconst (v := 0) C dX6_areDigits_0 (by decide) ?_
  refine o_istore_nE (L' := [some _, some _]) C dX6_areDigits_1 (by rw [hn]; decide) rfl ?_
  exact LP 8 0 rfl rfl
/-- what the class asks of the numbers of a meter -/
abbrev k_good (ad i mk v d : Int32) : Prop := (((0 : Int32) ≤ ad ∧ ad ≤ 250) ∧ g_dig i 8 = true) ∧ (((0 : Int32) ≤ mk &&& 255 ∧ mk &&& 255 ≤ 254) ∧ ((0 : Int32) ≤ mk >>> ((8 : Int32) &&& 31) ∧ mk >>> ((8 : Int32) &&& 31) ≤ 254) ∧ ((0 : Int32) ≤ v ∧ v ≤ 254) ∧ ((0 : Int32) ≤ d ∧ d ≤ 254))
theorem m_meter (hX : Wx w c) (F : FR c a h) (k ad i mk v d : Int32) : TCX w yX6_meter cX6_meter 9 none 6 194 [.ref (a 0), .int k, .int ad, .int i, .int mk, .int v, .int d] h (fun r g => (((0 : Int32) ≤ k ∧ k < 12) ∧ k_good ad i mk v d) ∧ r = none ∧ ∀ q, h q ≠ none → q ≠ a 4 → g q = h q)
    (fun En g => (¬ ((0 : Int32) ≤ k ∧ k < 12) ∧ En = IOE ∧ g = h) ∨ (((0 : Int32) ≤ k ∧ k < 12) ∧ ¬ k_good ad i mk v d) ∧ En = IAE ∧ g = h) := by
  have hW := hX.1
  refine TCX.intro hX.1 rfl (by decide +kernel) (Nat.le_of_ble_eq_true rfl) (fun z C Y E hn => ?_)
  refine x_iload_n C dX6_meter_0 rfl ?_
  refine u_callS C hW E.1 (m_isMeterNumber hW k) md_X6_isMeterNumber wt_X6_isMeterNumber wm_X6_81 dX6_meter_1 rfl (by decide) (by decide) rfl (by simp [Value.category]) ?_
  skip
  refine x_if_ne (tgt := 17) C dX6_meter_4 (by decide) (fun c4 => ?_) (fun c4 => ?_)
  rotate_left
  · exact u_thr (kc := 5) (ks := 188) hX C E exs_IOE at_76 wc_X6_72 wz_IndexOutOfBoundsException (show (85, "no such meter") ∈ txts by simp [txts]) dX6_meter_7 dX6_meter_10 dX6_meter_11 dX6_meter_13 dX6_meter_16 (by decide) (fun g e => Or.inl ⟨fun q => absurd (bI_t q) (by rw [c4]; decide), rfl, e⟩)
  have g0 : (0 : Int32) ≤ k ∧ k < 12 := Decidable.of_not_not (fun g => c4 (bI_f g))
  have T35 : ¬ k_good ad i mk v d → X z 6 194 (EQ h) 35 [some (.ref (a 0)), some (.int k), some (.int ad), some (.int i), some (.int mk), some (.int v), some (.int d), none, none] [] := fun g1 => u_thr (kc := 5) (ks := 188) hX C E exs_IAE at_51 wc_X6_47 wz_IllegalArgumentException (show (90, "the primary address or the ident is not as said") ∈ txts by simp [txts]) dX6_meter_35 dX6_meter_38 dX6_meter_39 dX6_meter_41 dX6_meter_44 (by decide) (fun g e => Or.inr ⟨⟨g0, g1⟩, rfl, e⟩)
  have T84 : ¬ k_good ad i mk v d → X z 6 194 (EQ h) 84 [some (.ref (a 0)), some (.int k), some (.int ad), some (.int i), some (.int mk), some (.int v), some (.int d), none, none] [] := fun g1 => u_thr (kc := 5) (ks := 188) hX C E exs_IAE at_51 wc_X6_47 wz_IllegalArgumentException (show (95, "maker, version or medium is not as said") ∈ txts by simp [txts]) dX6_meter_84 dX6_meter_87 dX6_meter_88 dX6_meter_90 dX6_meter_93 (by decide) (fun g e => Or.inr ⟨⟨g0, g1⟩, rfl, e⟩)
  refine x_iload_n C dX6_meter_17 rfl ?_
  refine x_if_lt (tgt := 35) C dX6_meter_18 (by decide) (fun c1 => T35 (fun g => absurd g.1.1.1 (Int32.not_le.mpr c1))) (fun c18 => ?_)
  refine x_iload_n C dX6_meter_21 rfl ?_
  refine x_sipush (v := 250) C dX6_meter_22 (by decide) ?_
  refine x_icmp_gt (tgt := 35) C dX6_meter_25 (by decide) (fun c1 => T35 (fun g => absurd g.1.1.2 (Int32.not_le.mpr c1))) (fun c25 => ?_)
  refine x_iload_n C dX6_meter_28 rfl ?_
  refine u_callS C hW E.1 (m_areDigits hW i) md_X6_areDigits wt_X6_areDigits wm_X6_87 dX6_meter_29 rfl (by decide) (by decide) rfl (by simp [Value.category]) ?_
  skip
  refine x_if_ne (tgt := 45) C dX6_meter_32 (by decide) (fun c32 => ?_) (fun c1 => T35 (fun g => absurd (bI_t g.1.2) (by rw [c1]; decide)))
  have g32 : g_dig i 8 = true := Decidable.of_not_not (fun g => c32 (bI_f g))
  refine x_iload C dX6_meter_45 rfl ?_
  refine x_sipush (v := 255) C dX6_meter_47 (by decide) ?_
  refine x_iand C dX6_meter_50 ?_
  refine u_callS C hW E.1 (m_isAddressByte hW (mk &&& 255)) md_X6_isAddressByte wt_X6_isAddressByte wm_X6_92 dX6_meter_51 rfl (by decide) (by decide) rfl (by simp [Value.category]) ?_
  skip
  refine x_if_eq (tgt := 84) C dX6_meter_54 (by decide) (fun c1 => T84 (fun g => absurd (bI_t g.2.1) (by rw [c1]; decide))) (fun c54 => ?_)
  have g54 := Decidable.of_not_not (fun g => c54 (bI_f g))
  refine x_iload C dX6_meter_57 rfl ?_
  refine x_bipush (v := 8) C dX6_meter_59 (by decide) ?_
  refine x_ishr C dX6_meter_61 ?_
  refine u_callS C hW E.1 (m_isAddressByte hW (mk >>> ((8 : Int32) &&& 31))) md_X6_isAddressByte wt_X6_isAddressByte wm_X6_92 dX6_meter_62 rfl (by decide) (by decide) rfl (by simp [Value.category]) ?_
  skip
  refine x_if_eq (tgt := 84) C dX6_meter_65 (by decide) (fun c1 => T84 (fun g => absurd (bI_t g.2.2.1) (by rw [c1]; decide))) (fun c65 => ?_)
  have g65 := Decidable.of_not_not (fun g => c65 (bI_f g))
  refine x_iload C dX6_meter_68 rfl ?_
  refine u_callS C hW E.1 (m_isAddressByte hW v) md_X6_isAddressByte wt_X6_isAddressByte wm_X6_92 dX6_meter_70 rfl (by decide) (by decide) rfl (by simp [Value.category]) ?_
  skip
  refine x_if_eq (tgt := 84) C dX6_meter_73 (by decide) (fun c1 => T84 (fun g => absurd (bI_t g.2.2.2.1) (by rw [c1]; decide))) (fun c73 => ?_)
  have g73 := Decidable.of_not_not (fun g => c73 (bI_f g))
  refine x_iload C dX6_meter_76 rfl ?_
  refine u_callS C hW E.1 (m_isAddressByte hW d) md_X6_isAddressByte wt_X6_isAddressByte wm_X6_92 dX6_meter_78 rfl (by decide) (by decide) rfl (by simp [Value.category]) ?_
  skip
  refine x_if_ne (tgt := 94) C dX6_meter_81 (by decide) (fun c81 => ?_) (fun c1 => T84 (fun g => absurd (bI_t g.2.2.2.2) (by rw [c1]; decide)))
  have g81 := Decidable.of_not_not (fun g => c81 (bI_f g))
  have gg : k_good ad i mk v d := ⟨⟨⟨Int32.not_lt.mp c18, Int32.not_lt.mp c25⟩, g32⟩, g54, g65, g73, g81⟩
  refine E.go C Y (fun z' C Y E hn1 => ?_)
  rw [hn] at hn1
  have hn := hn1
  obtain ⟨j, hj, rfl⟩ := nI_of (Int32.not_lt.mpr g0.1)
  have hj2 : j < 12 := (nI_ltI hj (by decide)).mp g0.2
  refine x_iload_n C dX6_meter_94 rfl ?_
  refine x_i2l C dX6_meter_95 ?_
  refine x_ldc2 C wk_X6_97 dX6_meter_96 ?_
  refine x_land C dX6_meter_99 ?_
  refine x_iload C dX6_meter_100 rfl ?_
  refine x_i2l C dX6_meter_102 ?_
  refine x_bipush (v := 32) C dX6_meter_103 (by decide) ?_
  refine x_lshl C dX6_meter_105 ?_
  refine x_lor C dX6_meter_106 ?_
  refine x_iload C dX6_meter_107 rfl ?_
  refine x_i2l C dX6_meter_109 ?_
  refine x_bipush (v := 48) C dX6_meter_110 (by decide) ?_
  refine x_lshl C dX6_meter_112 ?_
  refine x_lor C dX6_meter_113 ?_
  refine x_iload C dX6_meter_114 rfl ?_
  refine x_i2l C dX6_meter_116 ?_
  refine x_bipush (v := 56) C dX6_meter_117 (by decide) ?_
  refine x_lshl C dX6_meter_119 ?_
  refine x_lor C dX6_meter_120 ?_
  refine o_lstoreE (L' := [some _, some _, some _, some _, some _, some _, some _, some _, none]) C dX6_meter_121 (by rw [hn]; decide) rfl ?_
  refine x_aload_n C dX6_meter_123 rfl ?_
  refine e_get C Y kd_X6 1 (by decide) wf_X6_19 dX6_meter_124 F.x rfl ?_
  refine x_iload_n C dX6_meter_127 rfl ?_
  refine x_lload C dX6_meter_128 rfl ?_
  refine u_callV C Y hW E.cs (b_hasAnother hX F.bus (nI j) _) md_X0_hasAnother wi_X0_hasAnother ws_X0_hasAnother wm_X6_99 dX6_meter_130 rfl (by decide) (by decide) F.bus.1 rfl rfl (by simp [Value.category]) ?_
  refine x_if_eq (tgt := 146) C dX6_meter_133 (by decide) (fun c133 => ?_) (fun c133 => absurd c133 (not_not_intro rfl))
  refine x_aload_n C dX6_meter_146 rfl ?_
  refine e_get C Y kd_X6 1 (by decide) wf_X6_19 dX6_meter_147 F.x rfl ?_
  refine x_iload_n C dX6_meter_150 rfl ?_
  skip
  refine e_new (kc := 5) (ks := 186) (N := 8) C Y kd_X2 wc_X6_105 wn_X2 wz_X2 dX6_meter_151 (fs := [.long 0, .int 0, .int 0, .null, .null, .int 0, .int 0, .int 0]) (fun j hj => by rcases (show j = 0 ∨ j = 1 ∨ j = 2 ∨ j = 3 ∨ j = 4 ∨ j = 5 ∨ j = 6 ∨ j = 7 by omega) with rfl | rfl | rfl | rfl | rfl | rfl | rfl | rfl <;> rfl) (fun p hp => ?_)
  refine x_dup C dX6_meter_154 rfl ?_
  refine x_iload_n C dX6_meter_155 rfl ?_
  refine x_lload C dX6_meter_156 rfl ?_
  refine X.heap (A' := HO h p _) ?_ (fun g e => by subst e; exact ⟨hp, hs_self .., fun q n1 => hs_ne (fun e1 => n1 (by rw [e1]; exact hp))⟩)
  refine k_callI (kc := 0) (ks := 0) (st := [.ref p, .int (nI j), .ref (a 3)]) C E.cs hX.1.1 gw_good (n_met hX h ad _) md_X2_init rfl wi_X2_init wm_X6_107 dX6_meter_158 rfl (by decide) (by decide) rfl (by simp [Value.category]) (fun r => X.opn (fun g hB => ?_))
  obtain ⟨rfl, vs, -, hvs, old⟩ := hB
  have B2 : BE c g (a 3) (a 4) (a 5) 0 0 := ⟨by rw [old _ (by rw [F.bus.1]; simp)]; exact F.bus.1, by rw [old _ (by rw [F.bus.2]; simp)]; exact F.bus.2⟩
  refine u_callV C Y hW E.cs (b_plug hX B2 j p hj2 hvs) md_X0_plug wi_X0_plug ws_X0_plug wm_X6_110 dX6_meter_161 rfl (by decide) (by decide) B2.1 rfl rfl (by simp [Value.category]) ?_
  exact x_vret C E dX6_meter_164 (fun g e => ⟨⟨g0, gg⟩, rfl, fun q n1 n2 => by rw [e, hs_ne n2]; exact old q n1⟩)
end Calls
