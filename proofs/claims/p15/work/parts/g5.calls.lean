/-! MeterBus against the model: decode, clear, place; is one selected. -/
section Calls
variable {w : Wd} {c : Nat → ClassId} {a : Nat → Nat} {h9 : PH} {V : Nat → Prop} {α : Nat → Int64} {f : Nat → Option Nat} {κ κd κ' ω ωd ω' : Nat → Nat} {S S' : MS} {h g : PH} {r : Option Value}
/-- the decoder went on, and what it did is the model's -/
theorem ZI.ofD (Z : ZI c a h9 V α f κ κd ω ωd S h) (D : DK c (a 7) (a 8) (a 9) h (WD a κd h) κ' g) (E : EL c a κ' ω' S' g) (wf : WFa S' ∧ WFb S') (s : ∀ q j, q = 1 ∨ (10 ≤ q ∧ q ≤ 18) ∨ q = 21 → S'.a q j = S.a q j) (si : ∀ q, q = 2 ∨ q = 8 ∨ q = 9 ∨ q = 20 → S'.i q = S.i q) : ZI c a h9 V α f κ κ' ω ω' S' g := by
  have nw := fun q hq => Z.nw (q := q) hq
  obtain ⟨z1, z2, z3, z4, z5, z6, z7, z8⟩ := Z
  have st : ∀ q, WD a κd h q → g q = h q := fun q hq => (D.2.2.2.2.2 q hq).2.2.2.2.2
  have bn := z1.bus.nn.2
  have ra : ∀ i, (i = 0 ∨ i = 1 ∨ i = 2 ∨ i = 3 ∨ i = 4 ∨ i = 5 ∨ i = 6 ∨ i = 10) → g (a i) = h (a i) := fun i hi => st _ (z1.wd hi)
  refine ⟨z1.ofD D, z2.sm ⟨fun j => s 10 j (by omega), fun j => s 12 j (by omega)⟩, wf, z4.same (fun q hq => st q ⟨bn q (z4.1 q hq), z1.2.2.2.2.2.1 q (z4.1 q hq), nw q (Or.inl hq) 7 (by omega), nw q (Or.inl hq) 8 (by omega), nw q (Or.inl hq) 9 (by omega)⟩) (fun q j hq => s q j (by omega)), ?_, z6.go (ra 1 (by omega)) (ra 2 (by omega)) (si 2 (by omega)) (fun j => s 1 j (by omega)), z7.go (ra 0 (by omega)) (ra 10 (by omega)) (si 20 (by omega)) (fun j => s 21 j (by omega)), E⟩
  rw [EU, ra 3 (by omega), si 8 (by omega), si 9 (by omega)]
  exact z5
theorem ZI.wf' (hS : MH S) : WFa S ∧ WFb S := ⟨hS.1.mi.2.1, hS.1.mi.1⟩
/-- the list is cut to nothing -/
theorem ELx.nil {rn : Nat} {gr : Nat → Option Nat} (E : ELx c a κd ωd S h rn gr) (D : DK c (a 7) (a 8) (a 9) g V κd h) (e : S'.i 23 = nI 0) : ELx c a κd ωd S' (if 0 < rn then hs h (a 7) (.inr (4, [.ref (a 8), .int (nI 0)])) else h) 0 gr := by
  obtain ⟨x0, x1, x2, x3, x4, x5, x6, x7⟩ := E
  obtain ⟨l1, l2, l3, l4, l5, l6⟩ := D.2.2.2.2.1
  have w7 : ∀ q, ωd q ≠ 0 → q ≠ a 7 := fun q hq e => x0 q hq (by rw [e]; exact l1)
  have st : ∀ q, q ≠ a 7 → (if 0 < rn then hs h (a 7) (.inr (4, [.ref (a 8), .int (nI 0)])) else h) q = h q := fun q hq => by
    split
    · exact hs_ne hq
    · rfl
  refine ⟨x0, ?_, e, by omega, by rw [st _ (Ne.symm l4)]; exact x4, fun i q hi hq => ?_, fun i hi => absurd hi (Nat.not_lt_zero i), fun i hi => absurd hi (Nat.not_lt_zero i)⟩
  · split
    · exact hs_self ..
    · rw [show (0 : Nat) = rn by omega]; exact x1
  · have L := x5 i q hi hq
    exact L.go (st q (w7 q (by rw [L.1]; omega)))
/-- list.cutTo(0) -/
theorem k_nil (hX : Wx w c) {z : Fx} {cc : ByteArray} {kc ks pc : Nat} {L : List (Option Value)} {st : List Value} {lvl : Nat} (C : Cx z RX6 cc gw) (Y : Cty z c) (E : Cs z w lvl (40 * lvl)) (hf : 0 < lvl) (Z : ZI c a h9 V α f κ κd ω ωd S h) (d : decode cc pc = .ok (.invokevirtual 158, 3)) (hcat : (st.map fun v => v.category).sum ≤ 8)
    (k : ∀ g, ZI c a h9 V α f κ κd ω ωd ((S.si 23 0).si 34 0) g → X z kc ks (EQ g) (pc + 3) L st) : X z kc ks (EQ h) pc L (.int 0 :: .ref (a 7) :: st) := by
  obtain ⟨rn, gr, x⟩ := Z.2.2.2.2.2.2.2.x
  have dk := Z.1.dec
  refine u_callV (st := st) C Y hX.1 E (l_cutX hX.1 (i := 0) x.2.2.2.1 (by decide) x.2.1) md_X4_cutTo wi_X4_cutTo ws_X4_cutTo wm_X6_158 d rfl hf (by decide) x.2.1 rfl rfl hcat ?_
  refine k _ (Z.ofD ?_ (x.nil (S' := (S.si 23 0).si 34 0) dk (by rw [MS.si_i, if_neg (by decide), MS.si_i, if_pos rfl]; rfl)).el ⟨Z.2.2.1.1.si.si, Z.2.2.1.2.si.si⟩ (fun _ _ _ => rfl) (fun q hq => by rw [MS.si_i, if_neg (by omega), MS.si_i, if_neg (by omega)]))
  split
  · exact dk.putL (by decide)
  · exact dk
theorem zy_place (hX : Wx w c) (hS : MH S) (Z : ZI c a h9 V α f κ κd ω ωd S h) : T w gw yX6_place cX6_place 1 (some .int) 1 (40 * 1) 0 0 [.ref (a 0)] (EQ h) (fun r g => (∃ v, r = some (.int v)) ∧ ZQ c a h9 V (S.si 0 0) g) := by
  have hW := hX.1
  refine TA.intro hW rfl (by decide +kernel) (Nat.le_of_ble_eq_true rfl) (fun z C Y E hn h1 hA => ?_)
  rw [show h1 = h from hA]
  clear hA
  obtain ⟨-, -, ⟨fr, at_, en, fa, pl, mo, Bd, -⟩, -⟩ := Z.1.dec
  refine x_aload_n C dX6_place_0 rfl ?_
  refine e_get C Y kd_X6 3 (by decide) wf_X6_35 dX6_place_1 Z.x rfl ?_
  refine u_callV (st := []) C Y hW E.cs (d_placeOf hW Bd) md_X1_lastFaultPlace wi_X1_lastFaultPlace ws_X1_lastFaultPlace wm_X6_182 dX6_place_4 rfl (by decide) (by decide) Bd rfl rfl (by decide) ?_
  exact x_iret C E dX6_place_7 (fun g e => ⟨⟨_, rfl⟩, by rw [show g = _ from e]; exact ⟨hS.s0 0, α, f, κ, κd, ω, ωd, Z.s0 0⟩⟩)
theorem zy_clear (hX : Wx w c) (hS : MH S) (Z : ZI c a h9 V α f κ κd ω ωd S h) : T w gw yX6_clear cX6_clear 2 (some .int) 1 (40 * 1) 0 0 [.ref (a 0)] (EQ h) (fun r g => r = some (.int (S.i 23)) ∧ ZQ c a h9 V (((S.si 0 0).si 23 0).si 34 0) g) := by
  have hW := hX.1
  refine TA.intro hW rfl (by decide +kernel) (Nat.le_of_ble_eq_true rfl) (fun z C Y E hn h1 hA => ?_)
  rw [show h1 = h from hA]
  clear hA
  obtain ⟨rn, gr, x⟩ := Z.2.2.2.2.2.2.2.x
  have Z0 := Z.s0 0
  refine x_aload_n C dX6_clear_0 rfl ?_
  refine e_get C Y kd_X6 2 (by decide) wf_X6_26 dX6_clear_1 Z.x rfl ?_
  refine u_callV (st := []) C Y hW E.cs (l_size hW x.2.1) md_X4_size wi_X4_size ws_X4_size wm_X6_181 dX6_clear_4 rfl (by decide) (by decide) x.2.1 rfl rfl (by decide) ?_
  refine o_istore_nE (L' := [some _, some _]) C dX6_clear_7 (by rw [hn]; decide) rfl ?_
  refine x_aload_n C dX6_clear_8 rfl ?_
  refine e_get C Y kd_X6 2 (by decide) wf_X6_26 dX6_clear_9 Z.x rfl ?_
  refine x_iconst (v := 0) C dX6_clear_12 (by decide) ?_
  refine k_nil (st := []) hX C Y E.cs (by decide) Z0 dX6_clear_13 (by decide) (fun g Zg => ?_)
  refine x_iload_n C dX6_clear_16 rfl ?_
  exact x_iret C E dX6_clear_17 (fun q e => ⟨by rw [x.2.2.1], by rw [show q = _ from e]; exact ⟨hS.clear, α, f, κ, κd, ω, ωd, Zg⟩⟩)
theorem da_st (q n : Nat) : (∀ k j, k = 1 ∨ (10 ≤ k ∧ k ≤ 18) ∨ k = 21 → (f_da S q n).a k j = S.a k j) ∧ (∀ k, k = 2 ∨ k = 8 ∨ k = 9 ∨ k = 20 → (f_da S q n).i k = S.i k) := by
  constructor
  · intro k j hk
    exact da_a S q n (by rcases (show k = 1 ∨ k = 10 ∨ k = 11 ∨ k = 12 ∨ k = 13 ∨ k = 14 ∨ k = 15 ∨ k = 16 ∨ k = 17 ∨ k = 18 ∨ k = 21 by omega) with rfl | rfl | rfl | rfl | rfl | rfl | rfl | rfl | rfl | rfl | rfl <;> rfl) (by omega)
  · intro k hk
    exact da_i S q n (by rcases hk with rfl | rfl | rfl | rfl <;> rfl)
theorem da0_byt (wb : WFb S) {q : Nat} (hq : bk q = true) (n j : Nat) : byt ((f_da0 S q n).a 38 j) := (WFb.cp (S := ((S.si 41 0).si 36 (-1)).si 37 0) wb.si.si.si hq n) 38 j rfl
theorem zy_decode (hX : Wx w c) (hS : MH S) (Z : ZI c a h9 V α f κ κd ω ωd S h) : T w gw yX6_decode cX6_decode 1 (some .int) 8 (40 * 8) 420 3219 [.ref (a 0)] (EQ h) (fun r g => (∃ v, r = some (.int v)) ∧ ∃ n, S.i 2 = nI n ∧ n ≤ 300 ∧ ZQ c a h9 V (f_decode S n) g) := by
  have hW := hX.1
  refine TA.intro hW rfl (by decide +kernel) (Nat.le_of_ble_eq_true rfl) (fun z C Y E hn h1 hA => ?_)
  rw [show h1 = h from hA]
  clear hA
  have Z0 := Z.s0 0
  have hS0 := hS.s0 0
  obtain ⟨gb, n, R, e2, hb⟩ := Z0.2.2.2.2.2.1
  obtain ⟨rn, gr, x⟩ := Z0.2.2.2.2.2.2.2.x
  obtain ⟨r', tx, lr1, lr2, lr3, lr4⟩ := hS0.1.mi.2.2
  have er : r' = rn := (nI_eq (by omega) (by have := x.2.2.2.1; omega)).mp (lr1.symm.trans x.2.2.1)
  subst er
  have dk := Z0.1.dec
  obtain ⟨-, -, ⟨fr, at_, en, fa, pl, mo, Bd, -⟩, -⟩ := Z0.1.dec
  have n3 := R.2.2.2
  have e2' : S.i 2 = nI n := e2
  refine x_aload_n C dX6_decode_0 rfl ?_
  refine e_get C Y kd_X6 3 (by decide) wf_X6_35 dX6_decode_1 Z.x rfl ?_
  refine x_aload_n C dX6_decode_4 rfl ?_
  refine e_get C Y kd_X6 0 (by decide) wf_X6_10 dX6_decode_5 Z.x rfl ?_
  refine X.room (kc' := 0 + Bc (n - 21)) (ks' := 0 + Bs (n - 21)) ?_ (by unfold Bc; omega) (by unfold Bs; omega)
  refine k_callR (kc := 0) (ks := 0) (st := []) C Y hW E.cs (d_readsX hX R (Z.1.wd (i := 1) (by omega)) (Z.1.wd (i := 2) (by omega)) x dk (q0 := 1) (by decide) hb (da0_byt Z0.2.2.1.2 rfl n) lr3 lr4) rfl md_X1_reads wi_X1_reads ws_X1_reads wm_X6_170 dX6_decode_8 rfl (by decide) (by decide) Bd rfl rfl (by decide) (fun rr g hg => ?_)
  obtain ⟨κ9, ω9, r9, gr9, x9, D9, hr⟩ := hg
  have hD := hS.decode n
  have st := da_st (S := S.si 0 0) 1 n
  have Zg : ZI c a h9 V α f κ κ9 ω ω9 (f_decode S n) g := Z0.ofD D9 x9.el ⟨hD.1.mi.2.1, hD.1.mi.1⟩ st.1 st.2
  obtain ⟨⟨m, m1, Bl⟩, -, ⟨fr, at_, en, fa, pl, mo, Bd, -⟩, -⟩ := Zg.1.dec
  have T32 : ∀ v : Int32, X z 0 0 (EQ g) 32 [some (.ref (a 0))] [.int v] := fun v => x_iret C E dX6_decode_32 (fun q e => ⟨⟨_, rfl⟩, n, e2', n3, by rw [show q = _ from e]; exact ⟨hD, α, f, κ, κ9, ω, ω9, Zg⟩⟩)
  have T11 : ∀ v : Int32, X z 0 0 (EQ g) 11 [some (.ref (a 0))] [.int v] := fun v => by
    refine x_if_eq (tgt := 24) C dX6_decode_11 (by decide) (fun _ => ?_) (fun _ => ?_)
    · refine x_aload_n C dX6_decode_24 rfl ?_
      refine e_get C Y kd_X6 3 (by decide) wf_X6_35 dX6_decode_25 Zg.x rfl ?_
      refine u_callV (st := []) C Y hW E.cs (d_faultOf hW rfl Bd) md_X1_lastFault wi_X1_lastFault ws_X1_lastFault wm_X6_174 dX6_decode_28 rfl (by decide) (by decide) Bd rfl rfl (by decide) ?_
      exact x_ineg C dX6_decode_31 (T32 _)
    · refine x_aload_n C dX6_decode_14 rfl ?_
      refine e_get C Y kd_X6 2 (by decide) wf_X6_26 dX6_decode_15 Zg.x rfl ?_
      refine u_callV (st := []) C Y hW E.cs (l_size hW Bl) md_X4_size wi_X4_size ws_X4_size wm_X6_181 dX6_decode_18 rfl (by decide) (by decide) Bl rfl rfl (by decide) ?_
      exact x_goto (tgt := 32) C dX6_decode_21 (by decide) (T32 _)
  rcases hr with ⟨rfl, -⟩ | ⟨rfl, -⟩
  · exact T11 _
  · exact T11 _
theorem zy_isSelected (hX : Wx w c) (Z : ZI c a h9 V α f κ κd ω ωd S h) {mk : Int64} (hm : AB mk (fun b => S.a 19 b)) : T w gw yX6_isSelected cX6_isSelected 4 (some .boolean) 7 (40 * 7) 0 0 [.ref (a 0), .long mk] (EQ h) (fun r g => (r = some (.int 1) ∧ (f_putM S).i 7 = 1 ∧ ZI c a h9 V α f κ κd ω ωd (f_putM (f_putS (f_putM S) 64)) g) ∨ (r = some (.int 0) ∧ ¬ (f_putM S).i 7 = 1 ∧ ZI c a h9 V α f κ κd ω ωd (f_putM S) g)) := by
  have hW := hX.1
  refine TA.intro hW rfl (by decide +kernel) (Nat.le_of_ble_eq_true rfl) (fun z C Y E hn h1 hA => ?_)
  rw [show h1 = h from hA]
  clear hA
  refine x_aload_n C dX6_isSelected_0 rfl ?_
  refine e_get C Y kd_X6 1 (by decide) wf_X6_19 dX6_isSelected_1 Z.x rfl ?_
  refine x_lload_n C dX6_isSelected_4 rfl ?_
  refine k_putM (st := []) hX C Y E.cs (by decide) (by decide) Z hm dX6_isSelected_5 (by decide) (fun g Zg aw => ?_)
  obtain ⟨o1, o2⟩ := outV_M (S := S)
  have hm2 : AB mk (fun b => (f_putM S).a 19 b) := fun b hb => (hm b hb).trans (putM_bz rfl (by decide)).symm
  refine x_iconst (v := 1) C dX6_isSelected_8 (by decide) ?_
  refine x_icmp_ne (tgt := 16) C dX6_isSelected_9 (by decide) (fun q => ?_) (fun q => ?_)
  · refine x_iconst (v := 0) C dX6_isSelected_16 (by decide) ?_
    refine o_istore_nE (L' := [some _, some _, none, some _]) C dX6_isSelected_17 (by rw [hn]; decide) rfl ?_
    refine x_iload_n C dX6_isSelected_18 rfl ?_
    refine x_if_eq (tgt := 27) C dX6_isSelected_19 (by decide) (fun _ => ?_) (fun q => absurd rfl q)
    refine x_iload_n C dX6_isSelected_27 rfl ?_
    exact x_zret C E dX6_isSelected_28 (by decide) (fun g e => Or.inr ⟨rfl, fun y => q (o1.mpr y), by rw [show g = _ from e]; exact Zg⟩)
  · refine x_iconst (v := 1) C dX6_isSelected_12 (by decide) ?_
    refine x_goto (tgt := 17) C dX6_isSelected_13 (by decide) ?_
    refine o_istore_nE (L' := [some _, some _, none, some _]) C dX6_isSelected_17 (by rw [hn]; decide) rfl ?_
    refine x_iload_n C dX6_isSelected_18 rfl ?_
    refine x_if_eq (tgt := 27) C dX6_isSelected_19 (by decide) (fun q => absurd q (by decide)) (fun _ => ?_)
    refine x_aload_n C dX6_isSelected_22 rfl ?_
    refine x_lload_n C dX6_isSelected_23 rfl ?_
    refine k_callR (kc := 0) (ks := 0) (mc' := 0) (ms' := 0) (st := []) C Y hW E.cs (zy_reset hX Zg hm2) rfl md_X6_resetSelected wi_X6_resetSelected ws_X6_resetSelected wm_X6_221 dX6_isSelected_24 rfl (by decide) (by decide) Zg.x rfl rfl (by decide) (fun rr g2 hg => ?_)
    obtain ⟨rfl, Z2⟩ := hg
    refine x_iload_n C dX6_isSelected_27 rfl ?_
    exact x_zret C E dX6_isSelected_28 (by decide) (fun g e => Or.inl ⟨rfl, o1.mp q, by rw [show g = _ from e]; exact Z2⟩)
end Calls
