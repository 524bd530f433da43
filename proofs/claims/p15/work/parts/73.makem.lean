/-! A new Meter (of its pages only that they are there is told here). -/
section Rows
variable {z : Fx} {own : String} {cc : ByteArray} {kc ks pc : Nat} {L : List (Option Value)} {st : List Value} {c : Nat → ClassId} {h : PH}
theorem e_mnaW (C : Cx z own cc gw) (Y : Cty z c) {index : Nat} (ho : va_AOA .int z.s) (wl : Cond.classLink own index "[[I" ∈ gw) (d : decode cc pc = .ok (.multianewarray index 2, 4)) {n k : Int32} {N K : Nat} (hn : ¬ n < 0) (hk : ¬ k < 0) (hN : n.toNatClampNeg = N) (hK : k.toNatClampNeg = K) (hb : N ≤ 1000) (hb2 : K ≤ 1000)
    (kk : ∀ q : Nat, X z kc ks (EQ h) (pc + 4) L (.ref q :: st)) : X z (kc + (1 + N)) (ks + (N + N * K)) (EQ h) pc L (.int k :: .int n :: st) := by
  intro H locs ls cells slots ⟨g, hA, LP, f, q1, q2, q3⟩ hS hl c1 c2
  subst hA
  have r1 := C.rc
  have r2 := C.rs
  obtain ⟨t0, ht0⟩ := Y.2.1
  have hcy : z.s.vm.findClass (FieldType.array .int).toString = some (c 0) := va_nm_int (C.K.2 t0 _ ht0).2
  refine va_mna (X := []) (L := LP) (f := f) (ty := .int) (cy := c 0) (N' := N) (K' := K) (z := (K, .inl (fun _ => 0))) C.x C.b C.ow (C.ts _ wl) ho (C.ts _ wa_int) hcy C.K q2 q3 hS C.fr hn hk hN hK (by omega) (by show K * 4 ≤ 536870912; omega) (by omega) rfl rfl (by omega) (by omega) (fun cB => by rw [vp_cell_i]; exact arrV_new ..) d (fun q r cA H1 hi hf hK1 hP1 hD1 hS1 => ?_)
  refine kk q H1 locs ls (cells + 1 + N) (slots + N + N * K) ⟨g, rfl, LP ++ (List.range N).map r, vr_up f ((List.range N).map r) (.inl (c 0, K, .inl (fun _ => 0))), fun a e ge => ?_, fun j x hx => hP1 (j + 1) x hx, ?_⟩ hS1 hl (by omega) (by omega)
  · obtain ⟨g1, g2⟩ := q1 a e ge
    refine ⟨List.mem_append_left _ g1, ?_⟩
    rw [vr_up_ne (fun m => ?_), g2]
    obtain ⟨i, mi, rfl⟩ := List.mem_map.mp m
    exact hf i (List.mem_range.mp mi) g1
  · refine ⟨fun i j x y hx hy e => ?_, fun j x hx => hD1.2 (j + 1) x hx⟩
    have := hD1.1 (i + 1) (j + 1) x y hx hy e
    omega
end Rows
section Make
variable {w : Wd} {c : Nat → ClassId} {l : List (Nat × va_E)} {p : Nat}
/-- a Meter at p with the fields fs, all that h held is there -/
def HO (h : PH) (p : Nat) (fs : List Value) (g : PH) : Prop := h p = none ∧ g p = some (.inr (2, fs)) ∧ ∀ q, h q ≠ none → g q = h q
theorem HO.put {h g : PH} {p : Nat} {fs : List Value} (H : HO h p fs g) (fs' : List Value) : HO h p fs' (hs g p (.inr (2, fs'))) := ⟨H.1, hs_self .., fun q n => by rw [hs_ne (fun e => n (by rw [e]; exact H.1))]; exact H.2.2 q n⟩
theorem HO.new {h g : PH} {p ps : Nat} {fs : List Value} (H : HO h p fs g) (hq : g ps = none) (e : va_E) : HO h p fs (hs g ps e) := by
  refine ⟨H.1, ?_, fun q n => ?_⟩
  · rw [hs_ne (fun e1 => by have := H.2.1; rw [e1, hq] at this; exact nomatch this)]; exact H.2.1
  · rw [hs_ne (fun e1 => by have := H.2.2 q n; rw [e1, hq] at this; exact n (by rw [e1]; exact this.symm))]; exact H.2.2 q n
theorem n_met (hX : Wx w c) (h0 : PH) (pr : Int32) (ad : Int64) : T w gw yX2_init cX2_init 4 none 1 (40 * 1) 5 186 [.ref p, .int pr, .long ad] (HO h0 p [.long 0, .int 0, .int 0, .null, .null, .int 0, .int 0, .int 0]) (fun r g => r = none ∧ ∃ fs, HO h0 p fs g) := by
  refine TA.intro hX.1 rfl (by decide +kernel) (Nat.le_of_ble_eq_true rfl) (fun z C Y E hn h hA => ?_)
  refine x_aload_n C dX2_init_0 rfl ?_
  refine x_objInit C wm_X2_3 dX2_init_1 (by rw [E.fr_]; decide) (by rw [E.lo_]; decide) ?_
  refine x_aload_n C dX2_init_4 rfl ?_
  refine x_iconst (v := 0) C dX2_init_5 (by decide) ?_
  refine e_put C Y kd_X2 2 (by decide) rfl wf_X2_9 dX2_init_6 hA.2.1 (Nat.le_of_ble_eq_true rfl) (by decide) (by decide) rfl ?_
  have h1 := hA.put [.long 0, .int 0, .int 0, .null, .null, .int 0, .int 0, .int 0]
  refine x_aload_n C dX2_init_9 rfl ?_
  refine x_iconst (v := 3) C dX2_init_10 (by decide) ?_
  refine x_bipush (v := 60) C dX2_init_11 (by decide) ?_
  refine e_mnaW (kc := 1) (ks := 3) (N := 3) (K := 60) C Y (E.cs.gx hX).2.2.2.2.2.2.2.2 wc_X2_15 dX2_init_13 (by decide) (by decide) (by decide) (by decide) (by decide) (by decide) (fun q => ?_)
  refine e_putF C Y E.nm kd_X2 3 (by decide) rfl rfl wf_X2_17 dX2_init_17 h1.2.1 (Nat.le_of_ble_eq_true rfl) rfl rfl ?_
  have h2 := h1.put [.long 0, .int 0, .int 0, .ref q, .null, .int 0, .int 0, .int 0]
  refine x_aload_n C dX2_init_20 rfl ?_
  refine x_iconst (v := 3) C dX2_init_21 (by decide) ?_
  refine e_newi (kc := 0) (ks := 0) (N := 3) C Y dX2_init_22 (by decide) (by decide) (by decide) (fun ps hps => ?_)
  have h3 := h2.new hps (.inl (c 0, 3, .inl (fun _ => 0)))
  refine e_putF C Y E.nm kd_X2 4 (by decide) rfl rfl wf_X2_20 dX2_init_24 h3.2.1 (Nat.le_of_ble_eq_true rfl) rfl rfl ?_
  have h4 := h3.put [.long 0, .int 0, .int 0, .ref q, .ref ps, .int 0, .int 0, .int 0]
  refine x_aload_n C dX2_init_27 rfl ?_
  refine x_iconst (v := -1) C dX2_init_28 (by decide) ?_
  refine e_put C Y kd_X2 5 (by decide) rfl wf_X2_24 dX2_init_29 h4.2.1 (Nat.le_of_ble_eq_true rfl) rfl rfl rfl ?_
  have h5 := h4.put [.long 0, .int 0, .int 0, .ref q, .ref ps, .int (-1), .int 0, .int 0]
  refine x_aload_n C dX2_init_32 rfl ?_
  refine x_iconst (v := -1) C dX2_init_33 (by decide) ?_
  refine e_put C Y kd_X2 6 (by decide) rfl wf_X2_28 dX2_init_34 h5.2.1 (Nat.le_of_ble_eq_true rfl) rfl rfl rfl ?_
  have h6 := h5.put [.long 0, .int 0, .int 0, .ref q, .ref ps, .int (-1), .int (-1), .int 0]
  refine x_aload_n C dX2_init_37 rfl ?_
  refine x_iconst (v := 0) C dX2_init_38 (by decide) ?_
  refine e_put C Y kd_X2 7 (by decide) rfl wf_X2_31 dX2_init_39 h6.2.1 (Nat.le_of_ble_eq_true rfl) rfl rfl rfl ?_
  have h7 := h6.put [.long 0, .int 0, .int 0, .ref q, .ref ps, .int (-1), .int (-1), .int 0]
  refine x_aload_n C dX2_init_42 rfl ?_
  refine x_iload_n C dX2_init_43 rfl ?_
  refine e_put C Y kd_X2 1 (by decide) rfl wf_X2_34 dX2_init_44 h7.2.1 (Nat.le_of_ble_eq_true rfl) rfl rfl rfl ?_
  have h8 := h7.put [.long 0, .int pr, .int 0, .ref q, .ref ps, .int (-1), .int (-1), .int 0]
  refine x_aload_n C dX2_init_47 rfl ?_
  refine x_lload_n C dX2_init_48 rfl ?_
  refine e_putF C Y E.nm kd_X2 0 (by decide) rfl rfl wf_X2_37 dX2_init_49 h8.2.1 (Nat.le_of_ble_eq_true rfl) rfl rfl ?_
  have h9 := h8.put [.long ad, .int pr, .int 0, .ref q, .ref ps, .int (-1), .int (-1), .int 0]
  exact x_vret C E dX2_init_52 (fun g e => by subst e; exact ⟨rfl, _, h9⟩)
end Make
