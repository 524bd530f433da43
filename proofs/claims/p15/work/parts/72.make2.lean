/-! The makings of Decoder and MeterBus. -/
section Make
variable {w : Wd} {c : Nat → ClassId} {l : List (Nat × va_E)} {p li fr : Nat}
theorem n_dec (hW : Wc w c) : T w gw yX1_init cX1_init 3 none 1 (40 * 1) 0 0 [.ref p, .ref fr, .ref li] (HL ((p, .inr (1, [.null, .null, .int 0, .int 0, .int 0, .int 0, .int 0])) :: l)) (fun r g => r = none ∧ HL ((p, .inr (1, [.ref li, .ref fr, .int 0, .int 0, .int 0, .int (-1), .int 0])) :: l) g) := by
  refine TA.intro hW rfl (by decide +kernel) (Nat.le_of_ble_eq_true rfl) (fun z C Y E hn h hA => ?_)
  refine x_aload_n C dX1_init_0 rfl ?_
  refine x_objInit C wm_X1_3 dX1_init_1 (by rw [E.fr_]; decide) (by rw [E.lo_]; decide) ?_
  refine x_aload_n C dX1_init_4 rfl ?_
  refine x_iconst (v := 0) C dX1_init_5 (by decide) ?_
  refine e_put C Y kd_X1 2 (by decide) rfl wf_X1_9 dX1_init_6 (hA.at 0 rfl) (Nat.le_of_ble_eq_true rfl) rfl rfl rfl ?_
  have h1 := hA.put 0 rfl (.inr (1, [.null, .null, .int 0, .int 0, .int 0, .int 0, .int 0]))
  refine x_aload_n C dX1_init_9 rfl ?_
  refine x_iconst (v := 0) C dX1_init_10 (by decide) ?_
  refine e_put C Y kd_X1 3 (by decide) rfl wf_X1_15 dX1_init_11 (h1.at 0 rfl) (Nat.le_of_ble_eq_true rfl) rfl rfl rfl ?_
  have h2 := h1.put 0 rfl (.inr (1, [.null, .null, .int 0, .int 0, .int 0, .int 0, .int 0]))
  refine x_aload_n C dX1_init_14 rfl ?_
  refine x_iconst (v := 0) C dX1_init_15 (by decide) ?_
  refine e_put C Y kd_X1 4 (by decide) rfl wf_X1_18 dX1_init_16 (h2.at 0 rfl) (Nat.le_of_ble_eq_true rfl) rfl rfl rfl ?_
  have h3 := h2.put 0 rfl (.inr (1, [.null, .null, .int 0, .int 0, .int 0, .int 0, .int 0]))
  refine x_aload_n C dX1_init_19 rfl ?_
  refine x_iconst (v := -1) C dX1_init_20 (by decide) ?_
  refine e_put C Y kd_X1 5 (by decide) rfl wf_X1_21 dX1_init_21 (h3.at 0 rfl) (Nat.le_of_ble_eq_true rfl) rfl rfl rfl ?_
  have h4 := h3.put 0 rfl (.inr (1, [.null, .null, .int 0, .int 0, .int 0, .int (-1), .int 0]))
  refine x_aload_n C dX1_init_24 rfl ?_
  refine x_iconst (v := 0) C dX1_init_25 (by decide) ?_
  refine e_put C Y kd_X1 6 (by decide) rfl wf_X1_24 dX1_init_26 (h4.at 0 rfl) (Nat.le_of_ble_eq_true rfl) (by decide) (by decide) rfl ?_
  have h5 := h4.put 0 rfl (.inr (1, [.null, .null, .int 0, .int 0, .int 0, .int (-1), .int 0]))
  refine x_aload_n C dX1_init_29 rfl ?_
  refine x_aload_n C dX1_init_30 rfl ?_
  refine e_put C Y kd_X1 1 (by decide) rfl wf_X1_28 dX1_init_31 (h5.at 0 rfl) (Nat.le_of_ble_eq_true rfl) rfl rfl rfl ?_
  have h6 := h5.put 0 rfl (.inr (1, [.null, .ref fr, .int 0, .int 0, .int 0, .int (-1), .int 0]))
  refine x_aload_n C dX1_init_34 rfl ?_
  refine x_aload_n C dX1_init_35 rfl ?_
  refine e_putF C Y E.nm kd_X1 0 (by decide) rfl rfl wf_X1_32 dX1_init_36 (h6.at 0 rfl) (Nat.le_of_ble_eq_true rfl) rfl rfl ?_
  have h7 := h6.put 0 rfl (.inr (1, [.ref li, .ref fr, .int 0, .int 0, .int 0, .int (-1), .int 0]))
  exact x_vret C E dX1_init_39 (fun g e => by subst e; exact ⟨rfl, h7⟩)
/-- a new MeterBus: places 0 the object, 1 buffer, 2 its bytes, 3 bus, 4 its meters, 5 its answer, 6 the answer's bytes, 7 list, 8 its readings, 9 decoder, 10 what was found -/
def clsL (c : Nat → ClassId) (a : Nat → Nat) : List (Nat × va_E) :=
  [(a 10, .inl (c 1, 12, .inr (.inl (fun _ => 0)))), (a 9, .inr (1, [.ref (a 7), .ref (a 1), .int 0, .int 0, .int 0, .int (-1), .int 0])), (a 8, zR c (fun _ => none)), (a 7, .inr (4, [.ref (a 8), .int 0])), (a 6, z300 c), (a 5, .inr (5, [.ref (a 6), .int 0])), (a 4, zM c (fun _ => none)), (a 3, .inr (0, [.ref (a 4), .ref (a 5), .int 0, .int 0])), (a 2, z300 c), (a 1, .inr (5, [.ref (a 2), .int 0])),
    (a 0, .inr (6, [.ref (a 1), .ref (a 3), .ref (a 7), .ref (a 9), .ref (a 10), .int 0]))]
def ad11 (a0 a1 a2 a3 a4 a5 a6 a7 a8 a9 a10 : Nat) : Nat → Nat := fun i => match i with
  | 0 => a0 | 1 => a1 | 2 => a2 | 3 => a3 | 4 => a4 | 5 => a5 | 6 => a6 | 7 => a7 | 8 => a8 | 9 => a9 | _ => a10
theorem n_mb (hX : Wx w c) : T w gw yX6_init cX6_init 1 none 4 (40 * 4) 10 742 [.ref p] (HL ((p, .inr (6, [.null, .null, .null, .null, .null, .int 0])) :: l)) (fun r g => r = none ∧ ∃ a : Nat → Nat, a 0 = p ∧ HL (clsL c a ++ l) g) := by
  refine TA.intro hX.1 rfl (by decide +kernel) (Nat.le_of_ble_eq_true rfl) (fun z C Y E hn h hA => ?_)
  refine x_aload_n C dX6_init_0 rfl ?_
  refine x_objInit C wm_X6_1 dX6_init_1 (by rw [E.fr_]; decide) (by rw [E.lo_]; decide) ?_
  refine x_aload_n C dX6_init_4 rfl ?_
  refine e_new (kc := 9) (ks := 740) (N := 2) C Y kd_X5 wc_X6_7 wn_X5 wz_X5 dX6_init_5 (fs := [.null, .int 0]) (fun j hj => by rcases (show j = 0 ∨ j = 1 by omega) with rfl | rfl <;> rfl) (fun a1 hq => ?_)
  have h1 := hA.new hq (.inr (5, [.null, .int 0]))
  refine x_dup C dX6_init_8 rfl ?_
  refine X.heap (A' := HL _) ?_ (fun g e => by subst e; exact h1)
  refine k_callIN (kc := 8) (ks := 440) (st := [.ref a1, .ref p]) C E.cs hX.1.1 gw_good (n_row hX.1) md_X5_init rfl wi_X5_init (E.cs.nest hX (q := (RX6, 9, yX5_init)) (by simp [nst])) dX6_init_9 rfl (by decide) (by decide) rfl (by simp [Value.category]) (fun r => X.opn (fun h hB => ?_))
  obtain ⟨rfl, a2, h2⟩ := hB
  refine e_putF C Y E.nm kd_X6 0 (by decide) rfl rfl wf_X6_10 dX6_init_12 (h2.at 2 rfl) (Nat.le_of_ble_eq_true rfl) rfl rfl ?_
  have h3 := h2.put 2 rfl (.inr (6, [.ref a1, .null, .null, .null, .null, .int 0]))
  refine x_aload_n C dX6_init_15 rfl ?_
  refine e_new (kc := 7) (ks := 436) (N := 4) C Y kd_X0 wc_X6_16 wn_X0 wz_X0 dX6_init_16 (fs := [.null, .null, .int 0, .int 0]) (fun j hj => by rcases (show j = 0 ∨ j = 1 ∨ j = 2 ∨ j = 3 by omega) with rfl | rfl | rfl | rfl <;> rfl) (fun a3 hq3 => ?_)
  have h4 := h3.new hq3 (.inr (0, [.null, .null, .int 0, .int 0]))
  refine x_dup C dX6_init_19 rfl ?_
  refine X.heap (A' := HL _) ?_ (fun g e => by subst e; exact h4)
  refine k_callIN (kc := 4) (ks := 122) (st := [.ref a3, .ref p]) C E.cs hX.1.1 gw_good (n_bus hX) md_X0_init rfl wi_X0_init (E.cs.nest hX (q := (RX6, 18, yX0_init)) (by simp [nst])) dX6_init_20 rfl (by decide) (by decide) rfl (by simp [Value.category]) (fun r => X.opn (fun h hB => ?_))
  obtain ⟨rfl, a4, a5, a6, h5⟩ := hB
  refine e_putF C Y E.nm kd_X6 1 (by decide) rfl rfl wf_X6_19 dX6_init_23 (h5.at 6 rfl) (Nat.le_of_ble_eq_true rfl) rfl rfl ?_
  have h6 := h5.put 6 rfl (.inr (6, [.ref a1, .ref a3, .null, .null, .null, .int 0]))
  refine x_aload_n C dX6_init_26 rfl ?_
  refine e_new (kc := 3) (ks := 120) (N := 2) C Y kd_X4 wc_X6_23 wn_X4 wz_X4 dX6_init_27 (fs := [.null, .int 0]) (fun j hj => by rcases (show j = 0 ∨ j = 1 by omega) with rfl | rfl <;> rfl) (fun a7 hq7 => ?_)
  have h7 := h6.new hq7 (.inr (4, [.null, .int 0]))
  refine x_dup C dX6_init_30 rfl ?_
  refine X.heap (A' := HL _) ?_ (fun g e => by subst e; exact h7)
  refine k_callIN (kc := 2) (ks := 19) (st := [.ref a7, .ref p]) C E.cs hX.1.1 gw_good (n_recs hX) md_X4_init rfl wi_X4_init (E.cs.nest hX (q := (RX6, 25, yX4_init)) (by simp [nst])) dX6_init_31 rfl (by decide) (by decide) rfl (by simp [Value.category]) (fun r => X.opn (fun h hB => ?_))
  obtain ⟨rfl, a8, h8⟩ := hB
  refine e_putF C Y E.nm kd_X6 2 (by decide) rfl rfl wf_X6_26 dX6_init_34 (h8.at 8 rfl) (Nat.le_of_ble_eq_true rfl) rfl rfl ?_
  have h9 := h8.put 8 rfl (.inr (6, [.ref a1, .ref a3, .ref a7, .null, .null, .int 0]))
  refine x_aload_n C dX6_init_37 rfl ?_
  refine e_new (kc := 1) (ks := 12) (N := 7) C Y kd_X1 wc_X6_30 wn_X1 wz_X1 dX6_init_38 (fs := [.null, .null, .int 0, .int 0, .int 0, .int 0, .int 0]) (fun j hj => by rcases (show j = 0 ∨ j = 1 ∨ j = 2 ∨ j = 3 ∨ j = 4 ∨ j = 5 ∨ j = 6 by omega) with rfl | rfl | rfl | rfl | rfl | rfl | rfl <;> rfl) (fun a9 hq9 => ?_)
  have h10 := h9.new hq9 (.inr (1, [.null, .null, .int 0, .int 0, .int 0, .int 0, .int 0]))
  refine x_dup C dX6_init_41 rfl ?_
  refine x_aload_n C dX6_init_42 rfl ?_
  refine e_get C Y kd_X6 0 (by decide) wf_X6_10 dX6_init_43 (h10.at 9 rfl) rfl ?_
  refine x_aload_n C dX6_init_46 rfl ?_
  refine e_get C Y kd_X6 2 (by decide) wf_X6_26 dX6_init_47 (h10.at 9 rfl) rfl ?_
  refine X.heap (A' := HL _) ?_ (fun g e => by subst e; exact h10)
  refine k_callI (kc := 1) (ks := 12) (mc' := 0) (ms' := 0) (st := [.ref a9, .ref p]) C E.cs hX.1.1 gw_good (n_dec hX.1) md_X1_init rfl wi_X1_init wm_X6_32 dX6_init_50 rfl (by decide) (by decide) rfl (by simp [Value.category]) (fun r => X.opn (fun h hB => ?_))
  obtain ⟨rfl, h11⟩ := hB
  refine e_putF C Y E.nm kd_X6 3 (by decide) rfl rfl wf_X6_35 dX6_init_53 (h11.at 9 rfl) (Nat.le_of_ble_eq_true rfl) rfl rfl ?_
  have h12 := h11.put 9 rfl (.inr (6, [.ref a1, .ref a3, .ref a7, .ref a9, .null, .int 0]))
  refine x_aload_n C dX6_init_56 rfl ?_
  refine x_bipush (v := 12) C dX6_init_57 (by decide) ?_
  refine e_newl (kc := 0) (ks := 0) (N := 12) C Y dX6_init_59 (by decide) (by decide) (by decide) (fun a10 hq10 => ?_)
  have h13 := h12.new hq10 (.inl (c 1, 12, .inr (.inl (fun _ => 0))))
  refine e_putF C Y E.nm kd_X6 4 (by decide) rfl rfl wf_X6_39 dX6_init_61 (h13.at 10 rfl) (Nat.le_of_ble_eq_true rfl) rfl rfl ?_
  have h14 := h13.put 10 rfl (.inr (6, [.ref a1, .ref a3, .ref a7, .ref a9, .ref a10, .int 0]))
  refine x_aload_n C dX6_init_64 rfl ?_
  refine x_iconst (v := 0) C dX6_init_65 (by decide) ?_
  refine e_put C Y kd_X6 5 (by decide) rfl wf_X6_43 dX6_init_66 (h14.at 10 rfl) (Nat.le_of_ble_eq_true rfl) rfl rfl rfl ?_
  have h15 := h14.put 10 rfl (.inr (6, [.ref a1, .ref a3, .ref a7, .ref a9, .ref a10, .int 0]))
  exact x_vret C E dX6_init_69 (fun g e => by subst e; exact ⟨rfl, ad11 p a1 a2 a3 a4 a5 a6 a7 a8 a9 a10, rfl, h15⟩)
end Make
