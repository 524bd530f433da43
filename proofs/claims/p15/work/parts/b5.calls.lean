/-! MeterBus at any time: the calls that throw nothing. -/
theorem HB.bc (f g : Nat → Int32) : ∀ m, HB (bcF f g m) m
  | 0 => fun j hj => absurd hj (Nat.not_lt_zero j)
  | m + 1 => fun j hj => by
    show ∃ v, v < 256 ∧ upd (bcF f g m) m (g m &&& 255) j = nI v
    by_cases e : j = m
    · subst e
      obtain ⟨v, v1, v2⟩ := and255 (g j)
      exact ⟨v, v1, by rw [show upd (bcF f g j) j (g j &&& 255) j = g j &&& 255 from by simp [upd]]; exact v2⟩
    · rw [show upd (bcF f g m) m (g m &&& 255) j = bcF f g m j from by simp [upd, e]]
      exact HB.bc f g m j (by omega)
theorem rCut_le (n : Nat) (i : Int32) (hn : n ≤ 300) : rCut n i ≤ n := by
  unfold rCut
  split
  · rename_i q
    obtain ⟨j, hj, rfl⟩ := nI_of (Int32.not_lt.mpr q.1)
    rw [nI_clamp hj]
    exact Nat.le_of_lt ((nI_ltI hj (by omega)).mp q.2)
  · exact Nat.le_refl _
/-- all is well with the object, somehow -/
def ZE (c : Nat → ClassId) (a : Nat → Nat) (h9 : PH) (V : Nat → Prop) (α : Nat → Int64) (f : Nat → Option Nat) (h : PH) : Prop := ∃ κ κd, ZZ c a h9 V α f κ κd h
section Calls
variable {w : Wd} {c : Nat → ClassId} {a : Nat → Nat} {h9 : PH} {V : Nat → Prop} {h : PH} {α : Nat → Int64} {f : Nat → Option Nat} {κ κd : Nat → Nat}
theorem zz_place (hX : Wx w c) : T w gw yX6_place cX6_place 1 (some .int) 1 (40 * 1) 0 0 [.ref (a 0)] (ZE c a h9 V α f) (fun r g => (∃ v, r = some (.int v)) ∧ ZE c a h9 V α f g) := by
  have hW := hX.1
  refine TA.intro hW rfl (by decide +kernel) (Nat.le_of_ble_eq_true rfl) (fun z C Y E hn h hZ => ?_)
  obtain ⟨κ, κd, Z⟩ := hZ
  obtain ⟨fn, f1, Bx⟩ := Z.x
  obtain ⟨-, -, ⟨fr, at_, en, fa, pl, mo, Bd, -⟩, -⟩ := Z.dec
  refine x_aload_n C dX6_place_0 rfl ?_
  refine e_get C Y kd_X6 3 (by decide) wf_X6_35 dX6_place_1 Bx rfl ?_
  refine u_callV (st := []) C Y hW E.cs (d_placeOf hW Bd) md_X1_lastFaultPlace wi_X1_lastFaultPlace ws_X1_lastFaultPlace wm_X6_182 dX6_place_4 rfl (by decide) (by decide) Bd rfl rfl (by decide) ?_
  exact x_iret C E dX6_place_7 (fun g e => ⟨⟨_, rfl⟩, by rw [e]; exact ⟨κ, κd, Z⟩⟩)
/-- the list cut -/
theorem k_cut (hX : Wx w c) {z : Fx} {cc : ByteArray} {kc ks pc : Nat} {L : List (Option Value)} {st : List Value} {fr lo : Nat} (C : Cx z RX6 cc gw) (Y : Cty z c) (E : Cs z w fr lo) (hf : 1 ≤ fr) (hlo : 40 ≤ lo) (Z : ZZ c a h9 V α f κ κd h) (i : Int32) (d : decode cc pc = .ok (.invokevirtual 158, 3)) (hcat : (st.map fun v => v.category).sum ≤ 8)
    (k : ∀ g, ZZ c a h9 V α f κ κd g → (∀ q, q ≠ a 7 → g q = h q) → X z kc ks (EQ g) (pc + 3) L st) : X z kc ks (EQ h) pc L (.int i :: .ref (a 7) :: st) := by
  obtain ⟨⟨n, n1, Bl⟩, -⟩ := Z.dec
  refine k_callR (kc := kc) (ks := ks) (mc' := 0) (ms' := 0) (st := st) C Y hX.1 E (l_cut hX.1 n1 Bl i) rfl md_X4_cutTo wi_X4_cutTo ws_X4_cutTo wm_X6_158 d rfl (by omega) (by omega) Bl rfl rfl hcat (fun r g hg => ?_)
  obtain ⟨rfl, m, m1, rfl⟩ := hg
  exact k _ (Z.ofD (Z.dec.putL m1)) (fun q n => hs_ne n)
theorem zz_clear (hX : Wx w c) : T w gw yX6_clear cX6_clear 2 (some .int) 1 (40 * 1) 0 0 [.ref (a 0)] (ZE c a h9 V α f) (fun r g => (∃ v, r = some (.int v)) ∧ ZE c a h9 V α f g) := by
  have hW := hX.1
  refine TA.intro hW rfl (by decide +kernel) (Nat.le_of_ble_eq_true rfl) (fun z C Y E hn h hZ => ?_)
  obtain ⟨κ, κd, Z⟩ := hZ
  obtain ⟨fn, f1, Bx⟩ := Z.x
  obtain ⟨⟨n, n1, Bl⟩, -⟩ := Z.dec
  refine x_aload_n C dX6_clear_0 rfl ?_
  refine e_get C Y kd_X6 2 (by decide) wf_X6_26 dX6_clear_1 Bx rfl ?_
  refine u_callV (st := []) C Y hW E.cs (l_size hW Bl) md_X4_size wi_X4_size ws_X4_size wm_X6_181 dX6_clear_4 rfl (by decide) (by decide) Bl rfl rfl (by decide) ?_
  refine o_istore_nE (L' := [some _, some _]) C dX6_clear_7 (by rw [hn]; decide) rfl ?_
  refine x_aload_n C dX6_clear_8 rfl ?_
  refine e_get C Y kd_X6 2 (by decide) wf_X6_26 dX6_clear_9 Bx rfl ?_
  refine x_iconst (v := 0) C dX6_clear_12 (by decide) ?_
  refine k_cut (st := []) hX C Y E.cs (by decide) (by decide) Z 0 dX6_clear_13 (by decide) (fun g Zg _ => ?_)
  refine x_iload_n C dX6_clear_16 rfl ?_
  exact x_iret C E dX6_clear_17 (fun g e => ⟨⟨_, rfl⟩, by rw [e]; exact ⟨κ, κd, Zg⟩⟩)
theorem zz_decode (hX : Wx w c) : T w gw yX6_decode cX6_decode 1 (some .int) 8 (40 * 8) 420 3219 [.ref (a 0)] (ZE c a h9 V α f) (fun r g => (∃ v, r = some (.int v)) ∧ ZE c a h9 V α f g) := by
  have hW := hX.1
  refine TA.intro hW rfl (by decide +kernel) (Nat.le_of_ble_eq_true rfl) (fun z C Y E hn h hZ => ?_)
  obtain ⟨κ, κd, Z⟩ := hZ
  obtain ⟨fn, f1, Bx⟩ := Z.x
  obtain ⟨gb, n, R, hb⟩ := Z.buf
  obtain ⟨-, -, ⟨fr, at_, en, fa, pl, mo, Bd, -⟩, -⟩ := Z.dec
  have n3 := R.2.2.2
  refine x_aload_n C dX6_decode_0 rfl ?_
  refine e_get C Y kd_X6 3 (by decide) wf_X6_35 dX6_decode_1 Bx rfl ?_
  refine x_aload_n C dX6_decode_4 rfl ?_
  refine e_get C Y kd_X6 0 (by decide) wf_X6_10 dX6_decode_5 Bx rfl ?_
  refine X.room (kc' := 0 + Bc (n - 21)) (ks' := 0 + Bs (n - 21)) ?_ (by unfold Bc; omega) (by unfold Bs; omega)
  refine k_callR (kc := 0) (ks := 0) (st := []) C Y hW E.cs (d_reads hX R (Z.wd (i := 1) (by omega)) (Z.wd (i := 2) (by omega)) hb) ⟨κd, Z.dec⟩ md_X1_reads wi_X1_reads ws_X1_reads wm_X6_170 dX6_decode_8 rfl (by decide) (by decide) Bd rfl rfl (by decide) (fun r g hg => ?_)
  obtain ⟨hr, at9, e9, ⟨κ9, D9⟩, -⟩ := hg
  have Zg : ZZ c a h9 V α f κ κ9 g := Z.ofD D9
  obtain ⟨fn, f1, Bx⟩ := Zg.x
  obtain ⟨⟨m, m1, Bl⟩, -, ⟨fr, at_, en, fa, pl, mo, Bd, -⟩, -⟩ := Zg.dec
  have T32 : ∀ v : Int32, X z 0 0 (EQ g) 32 [some (.ref (a 0))] [.int v] := fun v => x_iret C E dX6_decode_32 (fun g e => ⟨⟨_, rfl⟩, by rw [e]; exact ⟨κ, κ9, Zg⟩⟩)
  have T11 : ∀ v : Int32, X z 0 0 (EQ g) 11 [some (.ref (a 0))] [.int v] := fun v => by
    refine x_if_eq (tgt := 24) C dX6_decode_11 (by decide) (fun _ => ?_) (fun _ => ?_)
    · refine x_aload_n C dX6_decode_24 rfl ?_
      refine e_get C Y kd_X6 3 (by decide) wf_X6_35 dX6_decode_25 Bx rfl ?_
      refine u_callV (st := []) C Y hW E.cs (d_faultOf hW rfl Bd) md_X1_lastFault wi_X1_lastFault ws_X1_lastFault wm_X6_174 dX6_decode_28 rfl (by decide) (by decide) Bd rfl rfl (by decide) ?_
      exact x_ineg C dX6_decode_31 (T32 _)
    · refine x_aload_n C dX6_decode_14 rfl ?_
      refine e_get C Y kd_X6 2 (by decide) wf_X6_26 dX6_decode_15 Bx rfl ?_
      refine u_callV (st := []) C Y hW E.cs (l_size hW Bl) md_X4_size wi_X4_size ws_X4_size wm_X6_181 dX6_decode_18 rfl (by decide) (by decide) Bl rfl rfl (by decide) ?_
      exact x_goto (tgt := 32) C dX6_decode_21 (by decide) (T32 _)
  rcases hr with rfl | rfl
  · exact T11 _
  · exact T11 _
/-- a call of the bus -/
theorem k_bus (hX : Wx w c) {z : Fx} {cc : ByteArray} {kc ks pc : Nat} {L : List (Option Value)} {st As stk : List Value} {fr lo : Nat} (C : Cx z RX6 cc gw) (Y : Cty z c) (E : Cs z w fr lo) (Z : ZZ c a h9 V α f κ κd h) {y' : MethodName} {cc' : ByteArray} {n' np index fr' : Nat}
    (M : T w gw y' cc' n' (some .int) fr' (40 * fr') 0 0 (.ref (a 3) :: As) (BX c (a 3) (a 4) (a 5) (a 6) h (WB a κ h) α f κ) (fun r g => (∃ v, r = some (.int v)) ∧ BX c (a 3) (a 4) (a 5) (a 6) h (WB a κ h) α f κ g)) (md : Md gw y' cc' n' (some .int) np) (wi : Cond.instanceMethod y' ∈ gw) (wse : Cond.selects y'.cls y' y' ∈ gw) (wl : Cond.methodLink RX6 index y' ∈ gw) (d : decode cc pc = .ok (.invokevirtual index, 3)) (hn : As.length = np) (hf : fr' + 1 ≤ fr) (hlo : 8 + (n' + 11) + 40 * fr' ≤ lo)
    (hcl : y'.cls = RX0) (hs : stk = As.reverse ++ .ref (a 3) :: st) (hcat : (st.map fun v => v.category).sum ≤ 8) (k : ∀ (v : Int32) (g : PH), ZZ c a h9 V α f κ κd g → X z kc ks (EQ g) (pc + 3) L (.int v :: st)) : X z kc ks (EQ h) pc L stk := by
  obtain ⟨fr1, co, B⟩ := Z.bus.uc
  refine k_callR (kc := kc) (ks := ks) (mc' := 0) (ms' := 0) (st := st) C Y hX.1 E M Z.bus md wi wse wl d hn hf hlo B (by rw [hcl]; rfl) hs hcat (fun r g hg => ?_)
  obtain ⟨⟨v, rfl⟩, D⟩ := hg
  exact k v g (Z.ofB0 D)
theorem zz_send (hX : Wx w c) : T w gw yX6_send cX6_send 2 (some .int) 8 (40 * 8) 0 0 [.ref (a 0)] (ZE c a h9 V α f) (fun r g => (∃ v, r = some (.int v)) ∧ ZE c a h9 V α f g) := by
  have hW := hX.1
  refine TA.intro hW rfl (by decide +kernel) (Nat.le_of_ble_eq_true rfl) (fun z C Y E hn h hZ => ?_)
  obtain ⟨κ, κd, Z⟩ := hZ
  obtain ⟨fn, f1, Bx⟩ := Z.x
  obtain ⟨gb, n, R, hb⟩ := Z.buf
  refine x_aload_n C dX6_send_0 rfl ?_
  refine e_get C Y kd_X6 1 (by decide) wf_X6_19 dX6_send_1 Bx rfl ?_
  refine x_aload_n C dX6_send_4 rfl ?_
  refine e_get C Y kd_X6 0 (by decide) wf_X6_10 dX6_send_5 Bx rfl ?_
  refine k_bus (st := []) hX C Y E.cs Z (u_put hX R (Z.wb (i := 1) (by omega)) (Z.wb (i := 2) (by omega))) md_X0_put wi_X0_put ws_X0_put wm_X6_134 dX6_send_8 rfl (by decide) (by decide) rfl rfl (by decide) (fun v g Zg => ?_)
  obtain ⟨fn, f1, Bx⟩ := Zg.x
  obtain ⟨gb2, n2, R2, hb2⟩ := Zg.buf
  obtain ⟨fr1, co, B⟩ := Zg.bus.uc
  obtain ⟨na, na90, -, -, -, ⟨ga, Ra, hba⟩, -⟩ := Zg.bus
  have d := Zg.dif
  refine o_istore_nE (L' := [some _, some _]) C dX6_send_11 (by rw [hn]; decide) rfl ?_
  refine x_aload_n C dX6_send_12 rfl ?_
  refine e_get C Y kd_X6 0 (by decide) wf_X6_10 dX6_send_13 Bx rfl ?_
  refine x_aload_n C dX6_send_16 rfl ?_
  refine e_get C Y kd_X6 1 (by decide) wf_X6_19 dX6_send_17 Bx rfl ?_
  refine u_callV (st := [.ref (a 1)]) C Y hW E.cs (u_lastAnswer hX B) md_X0_lastAnswer wi_X0_lastAnswer ws_X0_lastAnswer wm_X6_138 dX6_send_20 rfl (by decide) (by decide) B rfl rfl (by simp [Value.category]) ?_
  refine u_callV (st := []) C Y hW E.cs (r_become hW R2 Ra (d 5 1 (by omega) (by omega) (by omega)) (d 5 2 (by omega) (by omega) (by omega)) (d 6 1 (by omega) (by omega) (by omega)) (d 6 2 (by omega) (by omega) (by omega))) md_X5_become wi_X5_become ws_X5_become wm_X6_142 dX6_send_23 rfl (by decide) (by decide) R2.2.1 rfl rfl (by decide) ?_
  refine x_iload_n C dX6_send_26 rfl ?_
  exact x_iret C E dX6_send_27 (fun g e => ⟨⟨_, rfl⟩, by rw [e]; exact ⟨κ, κd, Zg.putB (by omega) (HB.bc _ _ _)⟩⟩)
theorem zz_reset (hX : Wx w c) (mk : Int64) : T w gw yX6_resetSelected cX6_resetSelected 3 none 6 (40 * 6) 0 0 [.ref (a 0), .long mk] (ZE c a h9 V α f) (fun r g => r = none ∧ ZE c a h9 V α f g) := by
  have hW := hX.1
  refine TA.intro hW rfl (by decide +kernel) (Nat.le_of_ble_eq_true rfl) (fun z C Y E hn h hZ => ?_)
  obtain ⟨κ, κd, Z⟩ := hZ
  obtain ⟨fn, f1, Bx⟩ := Z.x
  refine x_aload_n C dX6_resetSelected_0 rfl ?_
  refine e_get C Y kd_X6 1 (by decide) wf_X6_19 dX6_resetSelected_1 Bx rfl ?_
  refine x_bipush (v := 64) C dX6_resetSelected_4 (by decide) ?_
  refine x_sipush (v := 253) C dX6_resetSelected_6 (by decide) ?_
  refine k_bus (st := []) hX C Y E.cs Z (u_putShort hX 64 253) md_X0_putShort wi_X0_putShort ws_X0_putShort wm_X6_166 dX6_resetSelected_9 rfl (by decide) (by decide) rfl rfl (by decide) (fun v g Zg => ?_)
  obtain ⟨fn, f1, Bx⟩ := Zg.x
  refine x_pop C dX6_resetSelected_12 rfl ?_
  refine x_aload_n C dX6_resetSelected_13 rfl ?_
  refine e_get C Y kd_X6 1 (by decide) wf_X6_19 dX6_resetSelected_14 Bx rfl ?_
  refine x_lload_n C dX6_resetSelected_17 rfl ?_
  refine k_bus (st := []) hX C Y E.cs Zg (u_putSelect hX mk) md_X0_putSelect wi_X0_putSelect ws_X0_putSelect wm_X6_217 dX6_resetSelected_18 rfl (by decide) (by decide) rfl rfl (by decide) (fun v2 g2 Zg2 => ?_)
  refine x_pop C dX6_resetSelected_21 rfl ?_
  exact x_vret C E dX6_resetSelected_22 (fun g e => ⟨rfl, by rw [e]; exact ⟨κ, κd, Zg2⟩⟩)
end Calls
