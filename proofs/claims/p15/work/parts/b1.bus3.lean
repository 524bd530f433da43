/-! Bus: its meters looked up, plugged in; a new Meter told whole. -/
def pgE (c : Nat → ClassId) : va_E := .inl (c 0, 60, .inl (fun _ => 0))
def ouE (c : Nat → ClassId) (r : Nat → Nat) : va_E := .inl (c 5, 3, .inr (.inr (.inr (.inr (fun i => if i < 3 then some (r i) else none)))))
def mna3 (c : Nat → ClassId) (h : PH) (q : Nat) (r : Nat → Nat) : PH := fun a => if a = q then some (ouE c r) else if a ∈ (List.range 3).map r then some (pgE c) else h a
section Rows
variable {z : Fx} {own : String} {cc : ByteArray} {kc ks pc : Nat} {L : List (Option Value)} {st : List Value} {c : Nat → ClassId} {h : PH}
theorem e_mna3 (C : Cx z own cc gw) (Y : Cty z c) {index t5 : Nat} (h5 : z.tys[t5]? = some (c 5, .array .int)) (ho : va_AOA .int z.s) (wl : Cond.classLink own index "[[I" ∈ gw) (d : decode cc pc = .ok (.multianewarray index 2, 4))
    (kk : ∀ (q : Nat) (r : Nat → Nat), h q = none → (∀ i, i < 3 → h (r i) = none ∧ r i ≠ q) → (∀ i j, i < 3 → j < 3 → r i = r j → i = j) → X z kc ks (EQ (mna3 c h q r)) (pc + 4) L (.ref q :: st)) : X z (kc + 4) (ks + 183) (EQ h) pc L (.int 60 :: .int 3 :: st) := by
  intro H locs ls cells slots ⟨g, hA, LP, f, q1, q2, q3⟩ hS hl c1 c2
  subst hA
  have r1 := C.rc
  have r2 := C.rs
  obtain ⟨t0, ht0⟩ := Y.2.1
  have hcy : z.s.vm.findClass (FieldType.array .int).toString = some (c 0) := va_nm_int (C.K.2 t0 _ ht0).2
  refine va_mna (X := []) (L := LP) (f := f) (ty := .int) (cy := c 0) (N' := 3) (K' := 60) (z := (60, .inl (fun _ => 0))) C.x C.b C.ow (C.ts _ wl) ho (C.ts _ wa_int) hcy C.K q2 q3 hS C.fr (by decide) (by decide) (by decide) (by decide) (by omega) (by show 60 * 4 ≤ 536870912; omega) (by omega) rfl rfl (by omega) (by omega) (fun cB => by rw [vp_cell_i]; exact arrV_new ..) d (fun q r cA H1 hi hf hK1 hP1 hD1 hS1 => ?_)
  have hcA : cA = c 5 := by
    have e1 : z.s.vm.findClass ("[" ++ (FieldType.array .int).toString) = some cA := (hK1.2 z.tys.length (cA, .array .int) (by rw [List.getElem?_append_right (Nat.le_refl _), Nat.sub_self]; rfl)).2
    have e2 : z.s.vm.findClass ("[" ++ (FieldType.array .int).toString) = some (c 5) := (C.K.2 t5 _ h5).2
    exact Option.some.inj (e1.symm.trans e2)
  subst hcA
  have hq : q ∉ LP ++ (List.range 3).map r := fun m => by
    obtain ⟨k, hk⟩ := va_pl_get (X := []) (f := vr_up f ((List.range 3).map r) (.inl (c 0, 60, .inl (fun _ => 0)))) m
    have := hD1.1 0 (k + 1) _ _ rfl hk rfl
    omega
  have hl2 : va_pl (q :: (LP ++ (List.range 3).map r)) (va_up (vr_up f ((List.range 3).map r) (pgE c)) q (ouE c r)) = (q, ouE c r) :: va_pl (LP ++ (List.range 3).map r) (vr_up f ((List.range 3).map r) (pgE c)) := by
    unfold va_pl
    rw [List.map_cons, va_up_self]
    refine congrArg _ (List.map_congr_left fun a ha => ?_)
    exact Prod.ext rfl (va_up_ne _ _ (fun e : a = q => hq (by rw [← e]; exact ha)))
  refine kk q r ?_ (fun i hi3 => ⟨?_, fun e => hq (List.mem_append_right _ (List.mem_map.mpr ⟨i, List.mem_range.mpr hi3, e⟩))⟩) hi H1 locs ls (cells + 1 + 3) (slots + 3 + 3 * 60) ⟨_, rfl, q :: (LP ++ (List.range 3).map r), va_up (vr_up f ((List.range 3).map r) (pgE c)) q (ouE c r), fun a e ge => ?_, by rw [hl2]; exact hP1, by rw [hl2]; exact hD1⟩ hS1 hl (by omega) (by omega)
  · cases e : g q with
    | none => rfl
    | some x => exact absurd (List.mem_append_left _ (q1 q x e).1) hq
  · cases e : g (r i) with
    | none => rfl
    | some x => exact absurd (q1 _ x e).1 (hf i hi3)
  · unfold mna3 at ge
    by_cases e1 : a = q
    · subst e1
      rw [if_pos rfl] at ge
      exact ⟨List.mem_cons_self .., by rw [va_up_self]; exact Option.some.inj ge⟩
    · rw [if_neg e1] at ge
      rw [va_up_ne _ _ e1]
      by_cases e2 : a ∈ (List.range 3).map r
      · rw [if_pos e2] at ge
        exact ⟨List.mem_cons_of_mem _ (List.mem_append_right _ e2), by rw [vr_up_in e2]; exact Option.some.inj ge⟩
      · rw [if_neg e2] at ge
        obtain ⟨g1, g2⟩ := q1 a e ge
        exact ⟨List.mem_cons_of_mem _ (List.mem_append_left _ g1), by rw [vr_up_ne e2]; exact g2⟩
end Rows
/-- a new Meter at p, made over h -/
def MN (c : Nat → ClassId) (h : PH) (p : Nat) (ad : Int64) (pr : Int32) (g : PH) : Prop := ∃ (q ps : Nat) (r : Nat → Nat), g p = some (mF ad pr 0 q ps (-1) (-1) 0) ∧ g q = some (ouE c r) ∧ g ps = some (.inl (c 0, 3, .inl (fun _ => 0))) ∧ (∀ i, i < 3 → g (r i) = some (pgE c)) ∧ (h p ≠ none ∧ h q = none ∧ h ps = none ∧ ∀ i, i < 3 → h (r i) = none) ∧ (∀ a, a ≠ p → h a ≠ none → g a = h a) ∧ ∀ i j, i < 3 → j < 3 → r i = r j → i = j
section Make
variable {w : Wd} {c : Nat → ClassId} {p : Nat} {h : PH}
theorem n_meter (hX : Wx w c) (hp : h p = some (.inr (2, [.long 0, .int 0, .int 0, .null, .null, .int 0, .int 0, .int 0]))) (pr : Int32) (ad : Int64) : T w gw yX2_init cX2_init 4 none 1 (40 * 1) 5 186 [.ref p, .int pr, .long ad] (EQ h) (fun r g => r = none ∧ MN c h p ad pr g) := by
  refine TA.intro hX.1 rfl (by decide +kernel) (Nat.le_of_ble_eq_true rfl) (fun z C Y E hn h1 hA => ?_)
  rw [show h1 = h from hA]
  clear hA
  obtain ⟨t5, h5⟩ : ∃ t : Nat, z.tys[t]? = some (c 5, .array .int) := by rw [E.cs.2.2.2.1]; exact hX.2.2.2.2.2
  refine x_aload_n C dX2_init_0 rfl ?_
  refine x_objInit C wm_X2_3 dX2_init_1 (by rw [E.fr_]; decide) (by rw [E.lo_]; decide) ?_
  refine x_aload_n C dX2_init_4 rfl ?_
  refine x_iconst (v := 0) C dX2_init_5 (by decide) ?_
  refine e_put C Y kd_X2 2 (by decide) rfl wf_X2_9 dX2_init_6 hp (Nat.le_of_ble_eq_true rfl) (by decide) (by decide) rfl ?_
  refine x_aload_n C dX2_init_9 rfl ?_
  refine x_iconst (v := 3) C dX2_init_10 (by decide) ?_
  refine x_bipush (v := 60) C dX2_init_11 (by decide) ?_
  refine e_mna3 (kc := 1) (ks := 3) C Y h5 (E.cs.gx hX).2.2.2.2.2.2.2.2 wc_X2_15 dX2_init_13 (fun q r hq hr hri => ?_)
  generalize hh2 : mna3 c _ q r = h2
  have pq : p ≠ q := fun e => by rw [← e, hs_self] at hq; exact nomatch hq
  have pr_ : ∀ i, i < 3 → r i ≠ p := fun i hi e => by have := (hr i hi).1; rw [e, hs_self] at this; exact nomatch this
  have fq : h q = none := by rw [← hq, hs_ne (Ne.symm pq)]
  have fr : ∀ i, i < 3 → h (r i) = none := fun i hi => by rw [← (hr i hi).1, hs_ne (pr_ i hi)]
  have H0 : h2 p = some (.inr (2, [.long 0, .int 0, .int 0, .null, .null, .int 0, .int 0, .int 0])) := by
    rw [← hh2]; unfold mna3
    rw [if_neg pq, if_neg (fun m => by obtain ⟨i, mi, e⟩ := List.mem_map.mp m; exact pr_ i (List.mem_range.mp mi) e), hs_self]
    rfl
  have H1 : h2 q = some (ouE c r) := by rw [← hh2]; unfold mna3; rw [if_pos rfl]
  have H2 : ∀ i, i < 3 → h2 (r i) = some (pgE c) := fun i hi => by rw [← hh2]; unfold mna3; rw [if_neg (hr i hi).2, if_pos (List.mem_map.mpr ⟨i, List.mem_range.mpr hi, rfl⟩)]
  have H3 : ∀ a, a ≠ p → h a ≠ none → h2 a = h a := fun a n1 n2 => by
    rw [← hh2]; unfold mna3
    rw [if_neg (fun e => n2 (by rw [e]; exact fq)), if_neg (fun m => by obtain ⟨i, mi, e⟩ := List.mem_map.mp m; exact n2 (by rw [← e]; exact fr i (List.mem_range.mp mi))), hs_ne n1]
  have H5 : ∀ a, h2 a = none → h a = none := fun a e => by
    by_cases e1 : a = p
    · subst e1; rw [H0] at e; exact nomatch e
    · cases e2 : h a with
      | none => rfl
      | some x => rw [H3 a e1 (by rw [e2]; exact fun q => nomatch q), e2] at e; exact nomatch e
  refine e_putF C Y E.nm kd_X2 3 (by decide) rfl rfl wf_X2_17 dX2_init_17 H0 (Nat.le_of_ble_eq_true rfl) rfl rfl ?_
  refine x_aload_n C dX2_init_20 rfl ?_
  refine x_iconst (v := 3) C dX2_init_21 (by decide) ?_
  refine e_newi (kc := 0) (ks := 0) (N := 3) C Y dX2_init_22 (by decide) (by decide) (by decide) (fun ps hps => ?_)
  have psp : ps ≠ p := fun e => by rw [e, hs_self] at hps; exact nomatch hps
  rw [hs_ne psp] at hps
  refine e_putF C Y E.nm kd_X2 4 (by decide) rfl rfl wf_X2_20 dX2_init_24 ((hs_ne (Ne.symm psp)).trans (hs_self ..)) (Nat.le_of_ble_eq_true rfl) rfl rfl ?_
  refine x_aload_n C dX2_init_27 rfl ?_
  refine x_iconst (v := -1) C dX2_init_28 (by decide) ?_
  refine e_put C Y kd_X2 5 (by decide) rfl wf_X2_24 dX2_init_29 (hs_self ..) (Nat.le_of_ble_eq_true rfl) rfl rfl rfl ?_
  refine x_aload_n C dX2_init_32 rfl ?_
  refine x_iconst (v := -1) C dX2_init_33 (by decide) ?_
  refine e_put C Y kd_X2 6 (by decide) rfl wf_X2_28 dX2_init_34 (hs_self ..) (Nat.le_of_ble_eq_true rfl) rfl rfl rfl ?_
  refine x_aload_n C dX2_init_37 rfl ?_
  refine x_iconst (v := 0) C dX2_init_38 (by decide) ?_
  refine e_put C Y kd_X2 7 (by decide) rfl wf_X2_31 dX2_init_39 (hs_self ..) (Nat.le_of_ble_eq_true rfl) rfl rfl rfl ?_
  refine x_aload_n C dX2_init_42 rfl ?_
  refine x_iload_n C dX2_init_43 rfl ?_
  refine e_put C Y kd_X2 1 (by decide) rfl wf_X2_34 dX2_init_44 (hs_self ..) (Nat.le_of_ble_eq_true rfl) rfl rfl rfl ?_
  refine x_aload_n C dX2_init_47 rfl ?_
  refine x_lload_n C dX2_init_48 rfl ?_
  refine e_putF C Y E.nm kd_X2 0 (by decide) rfl rfl wf_X2_37 dX2_init_49 (hs_self ..) (Nat.le_of_ble_eq_true rfl) rfl rfl ?_
  refine x_vret C E dX2_init_52 (fun g e => ?_)
  subst e
  have nn : ∀ {a : Nat} {e : va_E}, h2 a = some e → a ≠ ps := fun g e => by rw [e, hps] at g; exact nomatch g
  have hx : ∀ a, a ≠ p → a ≠ ps → ∀ (e1 e2 e3 e4 e5 e6 e7 e8 : va_E), hs (hs (hs (hs (hs (hs (hs (hs h2 p e1) ps e2) p e3) p e4) p e5) p e6) p e7) p e8 a = h2 a := fun a n1 n2 e1 e2 e3 e4 e5 e6 e7 e8 => by rw [hs_ne n1, hs_ne n1, hs_ne n1, hs_ne n1, hs_ne n1, hs_ne n1, hs_ne n2, hs_ne n1]
  refine ⟨rfl, q, ps, r, hs_self .., (hx q (Ne.symm pq) (nn H1) _ _ _ _ _ _ _ _).trans H1, ?_, fun i hi => (hx _ (pr_ i hi) (nn (H2 i hi)) _ _ _ _ _ _ _ _).trans (H2 i hi), ⟨by rw [hp]; exact (fun q => nomatch q), fq, H5 _ hps, fr⟩, fun a n1 n2 => ?_, hri⟩
  · rw [hs_ne psp, hs_ne psp, hs_ne psp, hs_ne psp, hs_ne psp, hs_ne psp, hs_self]
  · exact (hx a n1 (fun e => n2 (by rw [e]; exact H5 _ hps)) _ _ _ _ _ _ _ _).trans (H3 a n1 n2)
end Make
