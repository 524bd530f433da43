/-! Bus, with no meter on it. -/
section Rows
variable {z : Fx} {own : String} {cc : ByteArray} {kc ks pc : Nat} {L : List (Option Value)} {st : List Value} {w : Wd} {c : Nat → ClassId} {y : MethodName} {rt : Option FieldType} {lvl : Nat} {h h' : PH} {r : Option Value}
theorem e_aldN (C : Cx z own cc gw) {t0 : Nat} {cA : ClassId} {Cn : String} (ht : z.tys[t0]? = some (cA, .object Cn)) (d : decode cc pc = .ok (.aaload, 1)) {a n j : Nat} {f : Nat → Option Nat} {i : Int32} (g : h a = some (.inl (cA, n, .inr (.inr (.inr (.inr f)))))) (hi : i = nI j) (hj : j < n) (hn : n < 2 ^ 31) (hb : f j = none)
    (kk : X z kc ks (EQ h) (pc + 1) L (.null :: st)) : X z kc ks (EQ h) pc L (.int i :: .ref a :: st) := by
  subst hi
  refine x_aald C ht d (fun q e => by rw [e]; exact g) (vp_in_nI hj hn) ?_
  rw [nI_clamp (by omega), hb]
  exact kk
theorem e_astN (C : Cx z own cc gw) {t0 : Nat} {cA : ClassId} {Cn : String} (ht : z.tys[t0]? = some (cA, .object Cn)) (d : decode cc pc = .ok (.aastore, 1)) {a n j : Nat} {f : Nat → Option Nat} {i : Int32} (g : h a = some (.inl (cA, n, .inr (.inr (.inr (.inr f)))))) (hi : i = nI j) (hj : j < n) (hn : n < 2 ^ 31)
    (kk : X z kc ks (EQ (hs h a (.inl (cA, n, .inr (.inr (.inr (.inr (va_up f j none)))))))) (pc + 1) L st) : X z kc ks (EQ h) pc L (.null :: .int i :: .ref a :: st) := by
  subst hi
  exact x_aastN C ht d (fun q e => by rw [e]; exact g) (vp_in_nI hj hn) (fun q e => by rw [e, nI_clamp (by omega)]) kk
theorem e_ast (C : Cx z own cc gw) (Y : Cty z c) {t0 ci v : Nat} {cA : ClassId} {rr : vw_C} {vs : List Value} (ht : z.tys[t0]? = some (cA, .object rr.1)) (hc : vwCl[ci]? = some rr) (d : decode cc pc = .ok (.aastore, 1)) {a n j : Nat} {f : Nat → Option Nat} {i : Int32} (g : h a = some (.inl (cA, n, .inr (.inr (.inr (.inr f)))))) (hi : i = nI j) (hj : j < n) (hn : n < 2 ^ 31) (gv : h v = some (.inr (ci, vs)))
    (kk : X z kc ks (EQ (hs h a (.inl (cA, n, .inr (.inr (.inr (.inr (va_up f j (some v))))))))) (pc + 1) L st) : X z kc ks (EQ h) pc L (.ref v :: .int i :: .ref a :: st) := by
  subst hi
  exact x_aast C ht (by rw [Y.1]; exact hc) d (fun q e => by rw [e]; exact g) (vp_in_nI hj hn) (fun q e => by rw [e]; exact gv) (fun q e => by rw [e, nI_clamp (by omega)]) kk
theorem e_aret (C : Cx z own cc gw) {ft : FieldType} (E : Ct z w gw y (some ft) lvl (40 * lvl) (PQ r h')) (hft : (∃ n, ft = .object n) ∨ ∃ t, ft = .array t) (d : decode cc pc = .ok (.areturn, 1)) {v : Value} (hv : v = .null ∨ ∃ a, v = .ref a) (g : some v = r) (g' : h = h') : X z kc ks (EQ h) pc L [v] := x_aret C E hft d hv (fun q e => ⟨g, e.trans g'⟩)
theorem o_astore_nN (C : Cx z own cc gw) {A : PH → Prop} {i : Fin 4} {L' : List (Option Value)} (d : decode cc pc = .ok (.astore_n i, 1)) (g : (i : Nat) < z.nL) (e : lst1 L i .null = L') (k : X z kc ks A (pc + 1) L' st) : X z kc ks A pc L (.null :: st) := by
  subst e
  exact x_astore_nN C d g k
theorem o_astoreN (C : Cx z own cc gw) {A : PH → Prop} {i : Nat} {L' : List (Option Value)} (d : decode cc pc = .ok (.astore i, 2)) (g : i < z.nL) (e : lst1 L i .null = L') (k : X z kc ks A (pc + 2) L' st) : X z kc ks A pc L (.null :: st) := by
  subst e
  exact x_astoreN C d g k
end Rows
theorem Wx.tM {w : Wd} {c : Nat → ClassId} {z : Fx} {fr lo : Nat} (hX : Wx w c) (E : Cs z w fr lo) : ∃ t : Nat, z.tys[t]? = some (c 3, .object RX2) := by
  rw [E.2.2.2.1]; exact hX.2.2.2.1
section Bus
variable {w : Wd} {c : Nat → ClassId} {h : PH} {u m an : Nat} {fr co : Int32}
/-- a Bus at u, no meter in its array m -/
def BE (c : Nat → ClassId) (h : PH) (u m an : Nat) (fr co : Int32) : Prop := h u = some (.inr (0, [.ref m, .ref an, .int fr, .int co])) ∧ h m = some (zM c (fun _ => none))
theorem b_meterAt (hX : Wx w c) (B : BE c h u m an fr co) (k : Int32) : TC w yX0_meterAt cX0_meterAt 2 (some (.object "MeterBus$Meter")) 0 [.ref u, .int k] h (some .null) h := by
  refine TC.intro hX.1 rfl (by decide +kernel) (Nat.le_of_ble_eq_true rfl) (fun z C Y E hn => ?_)
  obtain ⟨t, ht⟩ := hX.tM E.cs
  have T20 : X z 0 0 (EQ h) 20 [some (.ref u), some (.int k)] [.null] := e_aret C E (Or.inl ⟨_, rfl⟩) dX0_meterAt_20 (Or.inl rfl) rfl rfl
  have T19 : X z 0 0 (EQ h) 19 [some (.ref u), some (.int k)] [] := x_null C dX0_meterAt_19 T20
  refine x_iload_n C dX0_meterAt_0 rfl ?_
  refine x_if_lt (tgt := 19) C dX0_meterAt_1 (by decide) (fun _ => T19) (fun c1 => ?_)
  refine x_iload_n C dX0_meterAt_4 rfl ?_
  refine x_bipush (v := 12) C dX0_meterAt_5 (by decide) ?_
  refine x_icmp_ge (tgt := 19) C dX0_meterAt_7 (by decide) (fun _ => T19) (fun c2 => ?_)
  obtain ⟨j, hj, rfl⟩ := nI_of c1
  have hj2 : j < 12 := (nI_ltI hj (by decide)).mp (Int32.not_le.mp c2)
  refine x_aload_n C dX0_meterAt_10 rfl ?_
  refine e_get C Y kd_X0 0 (by decide) wf_X0_11 dX0_meterAt_11 B.1 rfl ?_
  refine x_iload_n C dX0_meterAt_14 rfl ?_
  refine e_aldN C ht dX0_meterAt_15 B.2 rfl hj2 (by decide) rfl ?_
  exact x_goto (tgt := 20) C dX0_meterAt_16 (by decide) T20
theorem b_plugN (hX : Wx w c) (B : BE c h u m an fr co) (k : Nat) (hk : k < 12) : TC w yX0_plug cX0_plug 3 none 0 [.ref u, .int (nI k), .null] h none h := by
  refine TC.intro hX.1 rfl (by decide +kernel) (Nat.le_of_ble_eq_true rfl) (fun z C Y E hn => ?_)
  obtain ⟨t, ht⟩ := hX.tM E.cs
  refine x_iload_n C dX0_plug_0 rfl ?_
  refine x_if_lt (tgt := 17) C dX0_plug_1 (by decide) (fun c1 => absurd c1 (nI_pos (by omega))) (fun c1 => ?_)
  refine x_iload_n C dX0_plug_4 rfl ?_
  refine x_bipush (v := 12) C dX0_plug_5 (by decide) ?_
  refine x_icmp_ge (tgt := 17) C dX0_plug_7 (by decide) (fun c2 => absurd c2 (Int32.not_le.mpr (nI_lt hk (by decide)))) (fun c2 => ?_)
  refine x_aload_n C dX0_plug_10 rfl ?_
  refine e_get C Y kd_X0 0 (by decide) wf_X0_11 dX0_plug_11 B.1 rfl ?_
  refine x_iload_n C dX0_plug_14 rfl ?_
  refine x_aload_nN C dX0_plug_15 rfl ?_
  refine e_astN C ht dX0_plug_16 B.2 rfl hk (by decide) ?_
  refine e_vret C E dX0_plug_17 rfl (hs_same ?_)
  rw [B.2]
  refine congrArg some ?_
  have : (va_up (fun _ : Nat => (none : Option Nat)) k none) = fun _ => none := by
    funext q
    by_cases e : q = k
    · subst e; exact va_up_self ..
    · exact va_up_ne _ _ e
  rw [this]
theorem b_plug (hX : Wx w c) (B : BE c h u m an fr co) (k v : Nat) (hk : k < 12) {vs : List Value} (hv : h v = some (.inr (2, vs))) : TC w yX0_plug cX0_plug 3 none 0 [.ref u, .int (nI k), .ref v] h none (hs h m (zM c (va_up (fun _ => none) k (some v)))) := by
  refine TC.intro hX.1 rfl (by decide +kernel) (Nat.le_of_ble_eq_true rfl) (fun z C Y E hn => ?_)
  obtain ⟨t, ht⟩ := hX.tM E.cs
  refine x_iload_n C dX0_plug_0 rfl ?_
  refine x_if_lt (tgt := 17) C dX0_plug_1 (by decide) (fun c1 => absurd c1 (nI_pos (by omega))) (fun c1 => ?_)
  refine x_iload_n C dX0_plug_4 rfl ?_
  refine x_bipush (v := 12) C dX0_plug_5 (by decide) ?_
  refine x_icmp_ge (tgt := 17) C dX0_plug_7 (by decide) (fun c2 => absurd c2 (Int32.not_le.mpr (nI_lt hk (by decide)))) (fun c2 => ?_)
  refine x_aload_n C dX0_plug_10 rfl ?_
  refine e_get C Y kd_X0 0 (by decide) wf_X0_11 dX0_plug_11 B.1 rfl ?_
  refine x_iload_n C dX0_plug_14 rfl ?_
  refine x_aload_n C dX0_plug_15 rfl ?_
  refine e_ast (rr := (RX2, TX2, 8)) C Y ht rfl dX0_plug_16 B.2 rfl hk (by decide) hv ?_
  exact e_vret C E dX0_plug_17 rfl rfl
theorem b_hasAnother (hX : Wx w c) (B : BE c h u m an fr co) (k : Int32) (a : Int64) : TC w yX0_hasAnother cX0_hasAnother 5 (some .boolean) 1 [.ref u, .int k, .long a] h (some (.int 0)) h := by
  refine TC.intro hX.1 rfl (by decide +kernel) (Nat.le_of_ble_eq_true rfl) (fun z C Y E hn => ?_)
  obtain ⟨t, ht⟩ := hX.tM E.cs
  have LP : ∀ (t k9 : Nat), k9 + t = 12 → X z 0 0 (EQ h) 3 [some (.ref u), some (.int k), some (.long a), none, some (.int (nI k9))] [] := by
    intro t
    induction t with
    | zero =>
      intro k9 hk
      obtain rfl : k9 = 12 := by omega
      refine x_iload C dX0_hasAnother_3 rfl ?_
      refine x_bipush (v := 12) C dX0_hasAnother_5 (by decide) ?_
      refine x_icmp_ge (tgt := 48) C dX0_hasAnother_7 (by decide) (fun _ => ?_) (fun c7 => absurd (Int32.le_refl _) c7)
      refine x_iconst (v := 0) C dX0_hasAnother_48 (by decide) ?_
      exact e_zret C E dX0_hasAnother_49 (by decide) rfl rfl
    | succ t ih =>
      intro k9 hk
      have T42 : X z 0 0 (EQ h) 42 [some (.ref u), some (.int k), some (.long a), none, some (.int (nI k9))] [] := by
        refine o_iincE (v := nI (k9 + 1)) (L' := [some _, some _, some _, none, some _]) C dX0_hasAnother_42 rfl (nI_1 k9) (by rw [hn]; decide) rfl ?_
        refine x_goto (tgt := 3) C dX0_hasAnother_45 (by decide) ?_
        exact ih (k9 + 1) (by omega)
      refine x_iload C dX0_hasAnother_3 rfl ?_
      refine x_bipush (v := 12) C dX0_hasAnother_5 (by decide) ?_
      refine x_icmp_ge (tgt := 48) C dX0_hasAnother_7 (by decide) (fun c7 => absurd c7 (Int32.not_le.mpr (nI_lt (show k9 < 12 by omega) (by decide)))) (fun c7 => ?_)
      refine x_iload C dX0_hasAnother_10 rfl ?_
      refine x_iload_n C dX0_hasAnother_12 rfl ?_
      refine x_icmp_eq (tgt := 42) C dX0_hasAnother_13 (by decide) (fun _ => T42) (fun _ => ?_)
      refine x_aload_n C dX0_hasAnother_16 rfl ?_
      refine e_get C Y kd_X0 0 (by decide) wf_X0_11 dX0_hasAnother_17 B.1 rfl ?_
      refine x_iload C dX0_hasAnother_20 rfl ?_
      refine e_aldN C ht dX0_hasAnother_22 B.2 rfl (show k9 < 12 by omega) (by decide) rfl ?_
      exact x_ifnullN (tgt := 42) C dX0_hasAnother_23 (by decide) T42
  refine x_iconst (v := 0) C dX0_hasAnother_0 (by decide) ?_
  refine o_istoreE (L' := [some _, some _, some _, none, some _]) C dX0_hasAnother_1 (by rw [hn]; decide) rfl ?_
  exact LP 12 0 rfl
theorem b_meterNumber (hX : Wx w c) (B : BE c h u m an fr co) : TC w yX0_meterNumber cX0_meterNumber 3 (some .int) 0 [.ref u] h (some (.int 0)) h := by
  refine TC.intro hX.1 rfl (by decide +kernel) (Nat.le_of_ble_eq_true rfl) (fun z C Y E hn => ?_)
  obtain ⟨t, ht⟩ := hX.tM E.cs
  have LP : ∀ (t k9 : Nat), k9 + t = 12 → X z 0 0 (EQ h) 4 [some (.ref u), some (.int 0), some (.int (nI k9))] [] := by
    intro t
    induction t with
    | zero =>
      intro k9 hk
      obtain rfl : k9 = 12 := by omega
      refine x_iload_n C dX0_meterNumber_4 rfl ?_
      refine x_bipush (v := 12) C dX0_meterNumber_5 (by decide) ?_
      refine x_icmp_ge (tgt := 28) C dX0_meterNumber_7 (by decide) (fun _ => ?_) (fun c7 => absurd (Int32.le_refl _) c7)
      refine x_iload_n C dX0_meterNumber_28 rfl ?_
      exact e_iret C E dX0_meterNumber_29 rfl rfl
    | succ t ih =>
      intro k9 hk
      refine x_iload_n C dX0_meterNumber_4 rfl ?_
      refine x_bipush (v := 12) C dX0_meterNumber_5 (by decide) ?_
      refine x_icmp_ge (tgt := 28) C dX0_meterNumber_7 (by decide) (fun c7 => absurd c7 (Int32.not_le.mpr (nI_lt (show k9 < 12 by omega) (by decide)))) (fun c7 => ?_)
      refine x_aload_n C dX0_meterNumber_10 rfl ?_
      refine e_get C Y kd_X0 0 (by decide) wf_X0_11 dX0_meterNumber_11 B.1 rfl ?_
      refine x_iload_n C dX0_meterNumber_14 rfl ?_
      refine e_aldN C ht dX0_meterNumber_15 B.2 rfl (show k9 < 12 by omega) (by decide) rfl ?_
      refine x_ifnullN (tgt := 22) C dX0_meterNumber_16 (by decide) ?_
      refine o_iincE (v := nI (k9 + 1)) (L' := [some _, some _, some _]) C dX0_meterNumber_22 rfl (nI_1 k9) (by rw [hn]; decide) rfl ?_
      refine x_goto (tgt := 4) C dX0_meterNumber_25 (by decide) ?_
      exact ih (k9 + 1) (by omega)
  refine x_iconst (v := 0) C dX0_meterNumber_0 (by decide) ?_
  refine o_istore_nE (L' := [some _, some _, none]) C dX0_meterNumber_1 (by rw [hn]; decide) rfl ?_
  refine x_iconst (v := 0) C dX0_meterNumber_2 (by decide) ?_
  refine o_istore_nE (L' := [some _, some _, some _]) C dX0_meterNumber_3 (by rw [hn]; decide) rfl ?_
  exact LP 12 0 rfl
theorem b_frameNumber (hX : Wx w c) (B : BE c h u m an fr co) : TC w yX0_frameNumber cX0_frameNumber 1 (some .int) 0 [.ref u] h (some (.int fr)) h := by
  refine TC.intro hX.1 rfl (by decide +kernel) (Nat.le_of_ble_eq_true rfl) (fun z C Y E hn => ?_)
  refine x_aload_n C dX0_frameNumber_0 rfl ?_
  refine e_get C Y kd_X0 2 (by decide) wf_X0_24 dX0_frameNumber_1 B.1 rfl ?_
  refine e_iret C E dX0_frameNumber_4 ?_ ?_
  all_goals rfl
theorem b_collisionNumber (hX : Wx w c) (B : BE c h u m an fr co) : TC w yX0_collisionNumber cX0_collisionNumber 1 (some .int) 0 [.ref u] h (some (.int co)) h := by
  refine TC.intro hX.1 rfl (by decide +kernel) (Nat.le_of_ble_eq_true rfl) (fun z C Y E hn => ?_)
  refine x_aload_n C dX0_collisionNumber_0 rfl ?_
  refine e_get C Y kd_X0 3 (by decide) wf_X0_28 dX0_collisionNumber_1 B.1 rfl ?_
  refine e_iret C E dX0_collisionNumber_4 ?_ ?_
  all_goals rfl
theorem b_lastAnswer (hX : Wx w c) (B : BE c h u m an fr co) : TC w yX0_lastAnswer cX0_lastAnswer 1 (some (.object "MeterBus$Row")) 0 [.ref u] h (some (.ref an)) h := by
  refine TC.intro hX.1 rfl (by decide +kernel) (Nat.le_of_ble_eq_true rfl) (fun z C Y E hn => ?_)
  refine x_aload_n C dX0_lastAnswer_0 rfl ?_
  refine e_get C Y kd_X0 1 (by decide) wf_X0_20 dX0_lastAnswer_1 B.1 rfl ?_
  exact e_aret C E (Or.inl ⟨_, rfl⟩) dX0_lastAnswer_4 (Or.inr ⟨_, rfl⟩) rfl rfl
theorem b_outcome0 (hX : Wx w c) (B : BE c h u m an fr co) {ab : Nat} {f : Nat → Int32} (R : RW c h an ab f 0) : TC w yX0_outcome cX0_outcome 2 (some .int) 1 [.ref u, .int 0] h (some (.int 0)) h := by
  have hW := hX.1
  refine TC.intro hX.1 rfl (by decide +kernel) (Nat.le_of_ble_eq_true rfl) (fun z C Y E hn => ?_)
  have r0 := r_cutTo hX.1 R 0
  rw [show rCut 0 0 = 0 from by decide, R.same] at r0
  refine x_iload_n C dX0_outcome_0 rfl ?_
  refine x_iconst (v := 1) C dX0_outcome_1 (by decide) ?_
  refine x_icmp_ne (tgt := 13) C dX0_outcome_2 (by decide) (fun _ => ?_) (fun c2 => absurd c2 (by decide))
  refine x_aload_n C dX0_outcome_13 rfl ?_
  refine e_get C Y kd_X0 1 (by decide) wf_X0_20 dX0_outcome_14 B.1 rfl ?_
  refine x_iconst (v := 0) C dX0_outcome_17 (by decide) ?_
  refine e_callV C Y hW E (r0) md_X5_cutTo wi_X5_cutTo ws_X5_cutTo wm_X0_96 dX0_outcome_18 rfl (by decide) (by decide) R.2.1 rfl rfl (by simp [Value.category]) ?_
  refine x_iload_n C dX0_outcome_21 rfl ?_
  refine x_if_ne (tgt := 27) C dX0_outcome_22 (by decide) (fun c22 => absurd c22 (by decide)) (fun c22 => ?_)
  refine x_iconst (v := 0) C dX0_outcome_25 (by decide) ?_
  refine e_iret C E dX0_outcome_26 ?_ ?_
  all_goals rfl
end Bus
