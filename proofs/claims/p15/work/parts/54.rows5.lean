/-! The class: Row, its other methods. -/
section Rows
variable {z : Fx} {own : String} {cc : ByteArray} {kc ks pc : Nat} {L : List (Option Value)} {st : List Value}
theorem o_istoreE (C : Cx z own cc gw) {A : PH → Prop} {i : Nat} {x : Int32} {L' : List (Option Value)} (d : decode cc pc = .ok (.istore i, 2)) (g : i < z.nL) (e : lst1 L i (.int x) = L')
    (k : X z kc ks A (pc + 2) L' st) : X z kc ks A pc L (.int x :: st) := by subst e; exact x_istore C d g k
theorem o_istore_nE (C : Cx z own cc gw) {A : PH → Prop} {i : Fin 4} {x : Int32} {L' : List (Option Value)} (d : decode cc pc = .ok (.istore_n i, 1)) (g : (i : Nat) < z.nL) (e : lst1 L i (.int x) = L')
    (k : X z kc ks A (pc + 1) L' st) : X z kc ks A pc L (.int x :: st) := by subst e; exact x_istore_n C d g k
theorem o_lstoreE (C : Cx z own cc gw) {A : PH → Prop} {i : Nat} {x : Int64} {L' : List (Option Value)} (d : decode cc pc = .ok (.lstore i, 2)) (g : i + 1 < z.nL) (e : lst2 L i (.long x) = L')
    (k : X z kc ks A (pc + 2) L' st) : X z kc ks A pc L (.long x :: st) := by subst e; exact x_lstore C d g k
theorem o_lstore_nE (C : Cx z own cc gw) {A : PH → Prop} {i : Fin 4} {x : Int64} {L' : List (Option Value)} (d : decode cc pc = .ok (.lstore_n i, 1)) (g : (i : Nat) + 1 < z.nL) (e : lst2 L i (.long x) = L')
    (k : X z kc ks A (pc + 1) L' st) : X z kc ks A pc L (.long x :: st) := by subst e; exact x_lstore_n C d g k
theorem o_astoreE (C : Cx z own cc gw) {A : PH → Prop} {i x : Nat} {L' : List (Option Value)} (d : decode cc pc = .ok (.astore i, 2)) (g : i < z.nL) (e : lst1 L i (.ref x) = L')
    (k : X z kc ks A (pc + 2) L' st) : X z kc ks A pc L (.ref x :: st) := by subst e; exact x_astore C d g k
theorem o_astore_nE (C : Cx z own cc gw) {A : PH → Prop} {i : Fin 4} {x : Nat} {L' : List (Option Value)} (d : decode cc pc = .ok (.astore_n i, 1)) (g : (i : Nat) < z.nL) (e : lst1 L i (.ref x) = L')
    (k : X z kc ks A (pc + 1) L' st) : X z kc ks A pc L (.ref x :: st) := by subst e; exact x_astore_n C d g k
theorem o_iincE (C : Cx z own cc gw) {A : PH → Prop} {i : Nat} {n : Int} {x v : Int32} {L' : List (Option Value)} (d : decode cc pc = .ok (.iinc i n, 3)) (g : L[i]? = some (some (.int x))) (hv : x + Int32.ofInt n = v) (gn : i < z.nL) (e : lst1 L i (.int v) = L')
    (k : X z kc ks A (pc + 3) L' st) : X z kc ks A pc L st := by subst e; exact x_iinc C d g hv gn k
end Rows
theorem RW.cut {c : Nat → ClassId} {h : PH} {p q n : Nat} {f : Nat → Int32} (R : RW c h p q f n) (m : Nat) : hs h p (.inr (5, [.ref q, .int (nI m)])) = rowh c h p q f m := by
  unfold rowh
  rw [hs_same R.2.2.1]
theorem rNum_le {n : Nat} (h : n ≤ 300) : rNum n ≤ 300 := by unfold rNum; split <;> omega
section Row
variable {w : Wd} {c : Nat → ClassId} {h : PH} {p q n : Nat} {f : Nat → Int32}
theorem r_becomeSingle (hW : Wc w c) (R : RW c h p q f n) : TC w yX5_becomeSingle cX5_becomeSingle 1 none 1 [.ref p] h none (rowh c h p q (upd f 0 229) 1) := by
  refine TC.intro hW rfl (by decide +kernel) (Nat.le_of_ble_eq_true rfl) (fun z C Y E hn => ?_)
  have R1 : RW c (rowh c h p q f 0) p q f 0 := RW.of R.1 (by decide)
  refine x_aload_n C dX5_becomeSingle_0 rfl ?_
  refine x_iconst (v := 0) C dX5_becomeSingle_1 (by decide) ?_
  refine e_put C Y kd_X5 1 (by decide) rfl wf_X5_15 dX5_becomeSingle_2 R.2.1 (Nat.le_of_ble_eq_true rfl) rfl rfl (R.cut 0) ?_
  refine x_aload_n C dX5_becomeSingle_5 rfl ?_
  refine x_sipush (v := 229) C dX5_becomeSingle_6 (by decide) ?_
  refine e_callV C Y hW E (r_add hW R1 229) md_X5_add wi_X5_add ws_X5_add wm_X5_19 dX5_becomeSingle_9 rfl (by decide) (by decide) R1.2.1 rfl rfl (by simp [Value.category]) ?_
  refine e_vret C E dX5_becomeSingle_12 ?_ ?_
  exact rfl
  exact rw_rw R.1
/-- an address's first k bytes behind the row's -/
def by8 (a : Int64) (k : Nat) : Int32 := ((a.toUInt64 >>> (((8 : Int32) * nI k).toInt64.toUInt64 &&& Int64.toUInt64 63)).toInt64).toInt32
def adF (a : Int64) (f : Nat → Int32) (n : Nat) : Nat → (Nat → Int32) × Nat
  | 0 => (f, n)
  | k + 1 => (rAdd (adF a f n k).1 (adF a f n k).2 (by8 a k), rNum (adF a f n k).2)
theorem adF_le (a : Int64) (f : Nat → Int32) {n : Nat} (h : n ≤ 300) : ∀ k, (adF a f n k).2 ≤ 300
  | 0 => h
  | k + 1 => rNum_le (adF_le a f h k)
theorem r_addAddress (hW : Wc w c) (R : RW c h p q f n) (a : Int64) : TC w yX5_addAddress cX5_addAddress 4 none 1 [.ref p, .long a] h none (rowh c h p q (adF a f n 8).1 (adF a f n 8).2) := by
  refine TC.intro hW rfl (by decide +kernel) (Nat.le_of_ble_eq_true rfl) (fun z C Y E hn => ?_)
  have LP : ∀ (t k : Nat), k + t = 8 → X z 0 0 (EQ (rowh c h p q (adF a f n k).1 (adF a f n k).2)) 2 [some (.ref p), some (.long a), none, some (.int (nI k))] [] := by
    intro t
    induction t with
    | zero =>
      intro k hk
      obtain rfl : k = 8 := by omega
      refine x_iload_n C dX5_addAddress_2 rfl ?_
      refine x_bipush (v := 8) C dX5_addAddress_3 (by decide) ?_
      refine x_icmp_ge (tgt := 25) C dX5_addAddress_5 (by decide) (fun c5 => ?_) (fun c5 => absurd c5 (by decide))
      refine e_vret C E dX5_addAddress_25 ?_ ?_
      exact rfl
      exact rfl
    | succ t ih =>
      intro k hk
      have R1 : RW c (rowh c h p q (adF a f n k).1 (adF a f n k).2) p q (adF a f n k).1 (adF a f n k).2 := RW.of R.1 (adF_le a f R.2.2.2 k)
      have hr := r_add hW R1 (by8 a k)
      rw [rw_rw R.1] at hr
      refine x_iload_n C dX5_addAddress_2 rfl ?_
      refine x_bipush (v := 8) C dX5_addAddress_3 (by decide) ?_
      refine x_icmp_ge (tgt := 25) C dX5_addAddress_5 (by decide) (fun c5 => absurd c5 (Int32.not_le.mpr (nI_lt (show k < 8 by omega) (by decide)))) (fun c5 => ?_)
      refine x_aload_n C dX5_addAddress_8 rfl ?_
      refine x_lload_n C dX5_addAddress_9 rfl ?_
      refine x_bipush (v := 8) C dX5_addAddress_10 (by decide) ?_
      refine x_iload_n C dX5_addAddress_12 rfl ?_
      refine x_imul C dX5_addAddress_13 ?_
      refine x_lushr C dX5_addAddress_14 ?_
      refine x_l2i C dX5_addAddress_15 ?_
      refine e_callV C Y hW E (hr) md_X5_add wi_X5_add ws_X5_add wm_X5_19 dX5_addAddress_16 rfl (by decide) (by decide) R1.2.1 rfl rfl (by simp [Value.category]) ?_
      refine o_iincE (v := nI (k + 1)) (L' := [some _, some _, none, some _]) C dX5_addAddress_19 rfl (nI_1 k) (by rw [hn]; decide) rfl ?_
      refine x_goto (tgt := 2) C dX5_addAddress_22 (by decide) ?_
      exact ih (k + 1) (by omega)
  have h0 := LP 8 0 rfl
  rw [show (adF a f n 0) = (f, n) from rfl, R.same] at h0
  refine x_iconst (v := 0) C dX5_addAddress_0 (by decide) ?_
  refine o_istore_nE (L' := [some _, some _, none, some _]) C dX5_addAddress_1 (by rw [hn]; decide) rfl ?_
  exact h0
/-- the sum of k cells from a on -/
def sumR (f : Nat → Int32) (a : Nat) : Nat → Int32
  | 0 => 0
  | k + 1 => sumR f a k + f (a + k)
theorem rAt_in {i : Nat} (hi : i < n) (hn : n ≤ 300) : rAt f n (nI i) = f i := by
  unfold rAt
  rw [if_pos ⟨nI_le (a := 0) (Nat.zero_le i) (by omega), nI_lt hi (by omega)⟩, nI_clamp (by omega)]
theorem r_sum (hW : Wc w c) (R : RW c h p q f n) (a b : Nat) (ha : a ≤ 300) (hb : b ≤ 600) : TC w yX5_sum cX5_sum 5 (some .int) 1 [.ref p, .int (nI a), .int (nI b)] h (some (.int (sumR f a (min b n - a) &&& 255))) h := by
  refine TC.intro hW rfl (by decide +kernel) (Nat.le_of_ble_eq_true rfl) (fun z C Y E hn => ?_)
  have hn3 := R.2.2.2
  have LP : ∀ (t k : Nat), k + t = min b n - a → X z 0 0 (EQ h) 5 [some (.ref p), some (.int (nI a)), some (.int (nI b)), some (.int (sumR f a k)), some (.int (nI (a + k)))] [] := by
    intro t
    induction t with
    | zero =>
      intro k hk
      have ek : k = min b n - a := by omega
      have T35 : X z 0 0 (EQ h) 35 [some (.ref p), some (.int (nI a)), some (.int (nI b)), some (.int (sumR f a k)), some (.int (nI (a + k)))] [] := by
        refine x_iload_n C dX5_sum_35 rfl ?_
        refine x_sipush (v := 255) C dX5_sum_36 (by decide) ?_
        refine x_iand C dX5_sum_39 ?_
        refine e_iret C E dX5_sum_40 ?_ ?_
        rw [ek]
        exact rfl
      refine x_iload C dX5_sum_5 rfl ?_
      refine x_iload_n C dX5_sum_7 rfl ?_
      refine x_icmp_ge (tgt := 35) C dX5_sum_8 (by decide) (fun c8 => T35) (fun c8 => ?_)
      have g8 : a + k < b := (nI_ltI (by omega) (by omega)).mp (Int32.not_le.mp c8)
      refine x_iload C dX5_sum_11 rfl ?_
      refine x_aload_n C dX5_sum_13 rfl ?_
      refine e_get C Y kd_X5 1 (by decide) wf_X5_15 dX5_sum_14 R.2.1 rfl ?_
      refine x_icmp_ge (tgt := 35) C dX5_sum_17 (by decide) (fun c17 => ?_) (fun c17 => absurd c17 (not_not_intro (nI_le (show n ≤ a + k by omega) (by omega))))
      exact T35
    | succ t ih =>
      intro k hk
      have hr := r_at hW R (nI (a + k))
      rw [rAt_in (by omega) hn3] at hr
      refine x_iload C dX5_sum_5 rfl ?_
      refine x_iload_n C dX5_sum_7 rfl ?_
      refine x_icmp_ge (tgt := 35) C dX5_sum_8 (by decide) (fun c8 => absurd c8 (Int32.not_le.mpr (nI_lt (show a + k < b by omega) (by omega)))) (fun c8 => ?_)
      refine x_iload C dX5_sum_11 rfl ?_
      refine x_aload_n C dX5_sum_13 rfl ?_
      refine e_get C Y kd_X5 1 (by decide) wf_X5_15 dX5_sum_14 R.2.1 rfl ?_
      refine x_icmp_ge (tgt := 35) C dX5_sum_17 (by decide) (fun c17 => absurd c17 (Int32.not_le.mpr (nI_lt (show a + k < n by omega) (by omega)))) (fun c17 => ?_)
      refine x_iload_n C dX5_sum_20 rfl ?_
      refine x_aload_n C dX5_sum_21 rfl ?_
      refine x_iload C dX5_sum_22 rfl ?_
      refine e_callV C Y hW E (hr) md_X5_at wi_X5_at ws_X5_at wm_X5_23 dX5_sum_24 rfl (by decide) (by decide) R.2.1 rfl rfl (by simp [Value.category]) ?_
      refine x_iadd C dX5_sum_27 ?_
      refine o_istore_nE (L' := [some _, some _, some _, some _, some _]) C dX5_sum_28 (by rw [hn]; decide) rfl ?_
      refine o_iincE (v := nI (a + (k + 1))) (L' := [some _, some _, some _, some _, some _]) C dX5_sum_29 rfl (nI_1 (a + k)) (by rw [hn]; decide) rfl ?_
      refine x_goto (tgt := 5) C dX5_sum_32 (by decide) ?_
      exact ih (k + 1) (by omega)
  refine x_iconst (v := 0) C dX5_sum_0 (by decide) ?_
  refine o_istore_nE (L' := [some _, some _, some _, some _, none]) C dX5_sum_1 (by rw [hn]; decide) rfl ?_
  refine x_iload_n C dX5_sum_2 rfl ?_
  refine o_istoreE (L' := [some _, some _, some _, some _, some _]) C dX5_sum_3 (by rw [hn]; decide) rfl ?_
  exact LP _ 0 (Nat.zero_add _)
end Row
