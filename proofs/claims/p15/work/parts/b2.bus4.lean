/-! Bus: who is there; a new Meter taken up. -/
/-- the meter of a number, where it is one -/
def fk (f : Nat → Option Nat) (k : Int32) : Option Nat := if k < 0 ∨ 12 ≤ k then none else f k.toNatClampNeg
theorem fk_nI (f : Nat → Option Nat) {j : Nat} (hj : j < 12) : fk f (nI j) = f j := by
  unfold fk
  rw [if_neg (fun q => q.elim (nI_pos (by omega)) (Int32.not_le.mpr (nI_lt hj (by decide)))), nI_clamp (by omega)]
section Own
variable {c : Nat → ClassId} {u ma an aa n : Nat} {h0 h g : PH} {W : Nat → Prop} {α : Nat → Int64} {f : Nat → Option Nat} {κ : Nat → Nat}
theorem OKm.some {q k : Nat} {o : Option va_E} (g : OKm c κ α q k o) (n : k ≠ 0) : o ≠ none := by
  unfold OKm at g
  split at g
  · exact absurd rfl n
  all_goals (obtain ⟨e, e1⟩ := g; intro e2; rw [e2] at e1)
  · exact nomatch e1.1
  · exact nomatch e1.1
  · exact nomatch e1
  · exact nomatch e1
theorem BN.plug (D : BN c u ma an aa h0 W α f κ n h) {f' : Nat → Option Nat} (hf : ∀ k m, f' k = some m → κ m = 1) : BN c u ma an aa h0 W α f' κ n (hs h ma (zM c f')) := by
  obtain ⟨D1, D2, D3, ⟨g, ⟨r1, r2, r3, r4⟩, g2⟩, D5, ⟨l1, l2, l3, l4, l5, l6, l7, l8, l9⟩, D7⟩ := D
  refine ⟨by rw [hs_ne l5]; exact D1, hs_self .., hf, ⟨g, ⟨r1, by rw [hs_ne (Ne.symm l8)]; exact r2, by rw [hs_ne (Ne.symm l9)]; exact r3, r4⟩, g2⟩, fun x => ?_, ⟨l1, l2, l3, l4, l5, l6, l7, l8, l9⟩, fun x hx => ?_⟩
  · by_cases e1 : x = ma
    · subst e1; rw [l2]; trivial
    · rw [hs_ne e1]; exact D5 x
  · obtain ⟨x1, x2, x3, x4, x5, x6, x7⟩ := D7 x hx
    exact ⟨x1, x2, x3, x4, x5, x6, by rw [hs_ne x3]; exact x7⟩
/-- a new Meter at p is one of the bus's own -/
theorem BN.meter (D : BN c u ma an aa h0 W α f κ n h) {p : Nat} (hp : h p = none) {e : va_E} {ad : Int64} {pr : Int32} (M : MN c (hs h p e) p ad pr g) : ∃ κ', BN c u ma an aa h0 W (va_up α p ad) f κ' n g ∧ κ' p = 1 ∧ (∀ q, κ q ≠ 0 → κ' q = κ q) ∧ ∀ q, κ' q ≠ 0 → κ q ≠ 0 ∨ h q = none := by
  obtain ⟨D1, D2, D3, ⟨gr, ⟨r1, r2, r3, r4⟩, g2⟩, D5, ⟨l1, l2, l3, l4, l5⟩, D7⟩ := D
  obtain ⟨q, ps, r, m1, m2, m3, m4, ⟨m5, m6, m7, m8⟩, m9, -⟩ := M
  have qp : q ≠ p := fun e => by rw [e, hs_self] at m6; exact nomatch m6
  have sp : ps ≠ p := fun e => by rw [e, hs_self] at m7; exact nomatch m7
  have rp : ∀ i, i < 3 → r i ≠ p := fun i hi e => by have := m8 i hi; rw [e, hs_self] at this; exact nomatch this
  rw [hs_ne qp] at m6
  rw [hs_ne sp] at m7
  have m8' : ∀ i, i < 3 → h (r i) = none := fun i hi => by have := m8 i hi; rw [hs_ne (rp i hi)] at this; exact this
  have sq : ps ≠ q := fun e => by rw [e, m2] at m3; simp [ouE] at m3
  have rq : ∀ i, i < 3 → r i ≠ q := fun i hi e => by have := m4 i hi; rw [e, m2] at this; simp [ouE, pgE] at this
  have rs : ∀ i, i < 3 → r i ≠ ps := fun i hi e => by have := m4 i hi; rw [e, m3] at this; cases this
  have old : ∀ a, h a ≠ none → g a = h a := fun a n1 => by
    have ap : a ≠ p := fun e => n1 (by rw [e]; exact hp)
    rw [m9 a ap (by rw [hs_ne ap]; exact n1), hs_ne ap]
  let κ' : Nat → Nat := fun x => if x = p then 1 else if x = q then 2 else if x = ps then 4 else if x ∈ (List.range 3).map r then 3 else κ x
  have k1 : κ' p = 1 := if_pos rfl
  have k2 : κ' q = 2 := by show (if q = p then 1 else _) = 2; rw [if_neg qp, if_pos rfl]
  have k4 : κ' ps = 4 := by show (if ps = p then 1 else _) = 4; rw [if_neg sp, if_neg sq, if_pos rfl]
  have k3 : ∀ i, i < 3 → κ' (r i) = 3 := fun i hi => by show (if r i = p then 1 else _) = 3; rw [if_neg (rp i hi), if_neg (rq i hi), if_neg (rs i hi), if_pos (List.mem_map.mpr ⟨i, List.mem_range.mpr hi, rfl⟩)]
  have fr3 : ∀ {x : Nat}, x ∈ (List.range 3).map r → h x = none := fun m => by obtain ⟨i, mi, e⟩ := List.mem_map.mp m; rw [← e]; exact m8' i (List.mem_range.mp mi)
  have k5 : ∀ x, h x ≠ none → κ' x = κ x := fun x nx => by
    show (if x = p then 1 else _) = κ x
    rw [if_neg (fun e => nx (by rw [e]; exact hp)), if_neg (fun e => nx (by rw [e]; exact m6)), if_neg (fun e => nx (by rw [e]; exact m7)), if_neg (fun m => nx (fr3 m))]
  have k6 : ∀ x, κ x ≠ 0 → h x ≠ none := fun x nx => (D5 x).some nx
  have k7 : ∀ x, κ x ≠ 0 → κ' x = κ x := fun x nx => k5 x (k6 x nx)
  have nn : ∀ {x : Nat} {e : va_E}, h x = Option.some e → h x ≠ none := fun e1 e2 => by rw [e1] at e2; exact nomatch e2
  obtain ⟨fr, co, D1⟩ := D1
  refine ⟨κ', ⟨⟨fr, co, by rw [old u (nn D1)]; exact D1⟩, by rw [old ma (nn D2)]; exact D2, fun k m e => by rw [k7 m (by rw [D3 k m e]; decide)]; exact D3 k m e, ⟨gr, ⟨r1, by rw [old an (nn r2)]; exact r2, by rw [old aa (nn r3)]; exact r3, r4⟩, g2⟩, fun x => ?_, ⟨by rw [k5 u (nn D1)]; exact l1, by rw [k5 ma (nn D2)]; exact l2, by rw [k5 an (nn r2)]; exact l3, by rw [k5 aa (nn r3)]; exact l4, l5⟩, fun x hx => ?_⟩, k1, k7, fun x nx => ?_⟩
  · by_cases e1 : x = p
    · subst e1
      rw [k1, m1]
      exact ⟨_, rfl, pr, 0, -1, -1, 0, q, ps, by rw [va_up_self], k2, k4, Or.inl rfl⟩
    by_cases e2 : x = q
    · subst e2
      rw [k2, m2]
      exact ⟨_, rfl, fun i hi => ⟨r i, if_pos hi, k3 i hi⟩⟩
    by_cases e3 : x = ps
    · subst e3
      rw [k4, m3]
      exact ⟨_, rfl⟩
    by_cases e4 : x ∈ (List.range 3).map r
    · obtain ⟨i, mi, e⟩ := List.mem_map.mp e4
      have hi := List.mem_range.mp mi
      subst e
      rw [k3 i hi, m4 i hi]
      exact ⟨_, rfl⟩
    have kx : κ' x = κ x := by show (if x = p then 1 else _) = κ x; rw [if_neg e1, if_neg e2, if_neg e3, if_neg e4]
    by_cases e5 : κ x = 0
    · rw [kx, e5]; trivial
    rw [kx, old x (k6 x e5)]
    have ok := D5 x
    generalize κ x = kk at ok e5
    unfold OKm at ok ⊢
    split at ok
    · trivial
    · obtain ⟨e, e6, pr1, se, pt, bt, ac, pg, sz, e7, e8, e9, e10⟩ := ok
      exact ⟨e, e6, pr1, se, pt, bt, ac, pg, sz, by rw [va_up_ne _ _ e1]; exact e7, by rw [k7 pg (by omega)]; exact e8, by rw [k7 sz (by omega)]; exact e9, e10⟩
    · obtain ⟨g9, e6, e7⟩ := ok
      refine ⟨g9, e6, fun i hi => ?_⟩
      obtain ⟨t, t1, t2⟩ := e7 i hi
      exact ⟨t, t1, by rw [k7 t (by omega)]; exact t2⟩
    · exact ok
    · exact ok
  · obtain ⟨x1, x2, x3, x4, x5, x6, x7⟩ := D7 x hx
    have nx : h x ≠ none := by rw [x7]; exact x6
    exact ⟨by rw [k5 x nx]; exact x1, x2, x3, x4, x5, x6, by rw [old x nx]; exact x7⟩
  · by_cases e5 : κ x = 0
    · right
      cases e6 : h x with
      | none => rfl
      | some e => exact absurd (by rw [k5 x (by rw [e6]; exact (fun q => nomatch q)), e5]) nx
    · exact Or.inl e5
end Own
section Bus
variable {w : Wd} {c : Nat → ClassId} {u ma an aa n m : Nat} {h0 h : PH} {W : Nat → Prop} {α : Nat → Int64} {f : Nat → Option Nat} {κ : Nat → Nat}
theorem u_meterAt (hX : Wx w c) (D : BX c u ma an aa h0 W α f κ h) (k : Int32) : TC w yX0_meterAt cX0_meterAt 2 (some (.object "MeterBus$Meter")) 0 [.ref u, .int k] h (some (va_rf (fk f k))) h := by
  obtain ⟨fr, co, B⟩ := D.uc
  refine TC.intro hX.1 rfl (by decide +kernel) (Nat.le_of_ble_eq_true rfl) (fun z C Y E hn => ?_)
  have T19 : fk f k = none → X z 0 0 (EQ h) 19 [some (.ref u), some (.int k)] [] := fun e => x_null C dX0_meterAt_19 (e_aret C E (Or.inl ⟨_, rfl⟩) dX0_meterAt_20 (Or.inl rfl) (by rw [e]; rfl) rfl)
  refine x_iload_n C dX0_meterAt_0 rfl ?_
  refine x_if_lt (tgt := 19) C dX0_meterAt_1 (by decide) (fun c1 => T19 (if_pos (Or.inl c1))) (fun c1 => ?_)
  refine x_iload_n C dX0_meterAt_4 rfl ?_
  refine x_bipush (v := 12) C dX0_meterAt_5 (by decide) ?_
  refine x_icmp_ge (tgt := 19) C dX0_meterAt_7 (by decide) (fun c2 => T19 (if_pos (Or.inr c2))) (fun c2 => ?_)
  obtain ⟨j, hj, rfl⟩ := nI_of c1
  have hj2 : j < 12 := (nI_ltI hj (by decide)).mp (Int32.not_le.mp c2)
  refine x_aload_n C dX0_meterAt_10 rfl ?_
  refine e_get C Y kd_X0 0 (by decide) wf_X0_11 dX0_meterAt_11 B rfl ?_
  refine x_iload_n C dX0_meterAt_14 rfl ?_
  refine k_meter hX C E.cs D hj2 dX0_meterAt_15 (fun e => ?_) (fun m e _ => ?_)
  · refine x_goto (tgt := 20) C dX0_meterAt_16 (by decide) ?_
    exact e_aret C E (Or.inl ⟨_, rfl⟩) dX0_meterAt_20 (Or.inl rfl) (by rw [fk_nI f hj2, e]; rfl) rfl
  · refine x_goto (tgt := 20) C dX0_meterAt_16 (by decide) ?_
    exact e_aret C E (Or.inl ⟨_, rfl⟩) dX0_meterAt_20 (Or.inr ⟨_, rfl⟩) (by rw [fk_nI f hj2, e]; rfl) rfl
theorem u_plugN (hX : Wx w c) (D : BX c u ma an aa h0 W α f κ h) {j : Nat} (hj : j < 12) : TC w yX0_plug cX0_plug 3 none 0 [.ref u, .int (nI j), .null] h none (hs h ma (zM c (va_up f j none))) := by
  obtain ⟨fr, co, B⟩ := D.uc
  obtain ⟨n, n90, Dn⟩ := D
  refine TC.intro hX.1 rfl (by decide +kernel) (Nat.le_of_ble_eq_true rfl) (fun z C Y E hn => ?_)
  obtain ⟨t, ht⟩ := hX.tM E.cs
  refine x_iload_n C dX0_plug_0 rfl ?_
  refine x_if_lt (tgt := 17) C dX0_plug_1 (by decide) (fun c1 => absurd c1 (nI_pos (by omega))) (fun c1 => ?_)
  refine x_iload_n C dX0_plug_4 rfl ?_
  refine x_bipush (v := 12) C dX0_plug_5 (by decide) ?_
  refine x_icmp_ge (tgt := 17) C dX0_plug_7 (by decide) (fun c2 => absurd c2 (Int32.not_le.mpr (nI_lt hj (by decide)))) (fun c2 => ?_)
  refine x_aload_n C dX0_plug_10 rfl ?_
  refine e_get C Y kd_X0 0 (by decide) wf_X0_11 dX0_plug_11 B rfl ?_
  refine x_iload_n C dX0_plug_14 rfl ?_
  refine x_aload_nN C dX0_plug_15 rfl ?_
  refine e_astN C ht dX0_plug_16 Dn.2.1 rfl hj (by decide) ?_
  exact e_vret C E dX0_plug_17 rfl rfl
theorem u_plug (hX : Wx w c) (D : BX c u ma an aa h0 W α f κ h) {j : Nat} (hj : j < 12) {vs : List Value} (hv : h m = some (.inr (2, vs))) : TC w yX0_plug cX0_plug 3 none 0 [.ref u, .int (nI j), .ref m] h none (hs h ma (zM c (va_up f j (some m)))) := by
  obtain ⟨fr, co, B⟩ := D.uc
  obtain ⟨n, n90, Dn⟩ := D
  refine TC.intro hX.1 rfl (by decide +kernel) (Nat.le_of_ble_eq_true rfl) (fun z C Y E hn => ?_)
  obtain ⟨t, ht⟩ := hX.tM E.cs
  refine x_iload_n C dX0_plug_0 rfl ?_
  refine x_if_lt (tgt := 17) C dX0_plug_1 (by decide) (fun c1 => absurd c1 (nI_pos (by omega))) (fun c1 => ?_)
  refine x_iload_n C dX0_plug_4 rfl ?_
  refine x_bipush (v := 12) C dX0_plug_5 (by decide) ?_
  refine x_icmp_ge (tgt := 17) C dX0_plug_7 (by decide) (fun c2 => absurd c2 (Int32.not_le.mpr (nI_lt hj (by decide)))) (fun c2 => ?_)
  refine x_aload_n C dX0_plug_10 rfl ?_
  refine e_get C Y kd_X0 0 (by decide) wf_X0_11 dX0_plug_11 B rfl ?_
  refine x_iload_n C dX0_plug_14 rfl ?_
  refine x_aload_n C dX0_plug_15 rfl ?_
  refine e_ast (rr := (RX2, TX2, 8)) C Y ht rfl dX0_plug_16 Dn.2.1 rfl hj (by decide) hv ?_
  exact e_vret C E dX0_plug_17 rfl rfl
/-- another meter has that address -/
def oth (f : Nat → Option Nat) (α : Nat → Int64) (k : Int32) (a : Int64) : Prop := ∃ j m, j < 12 ∧ nI j ≠ k ∧ f j = some m ∧ α m = a
theorem u_hasAnother (hX : Wx w c) (D : BX c u ma an aa h0 W α f κ h) (k : Int32) (a : Int64) : T w gw yX0_hasAnother cX0_hasAnother 5 (some .boolean) 1 (40 * 1) 0 0 [.ref u, .int k, .long a] (EQ h) (fun r g => g = h ∧ ((r = some (.int 1) ∧ oth f α k a) ∨ (r = some (.int 0) ∧ ¬ oth f α k a))) := by
  obtain ⟨fr, co, B⟩ := D.uc
  refine TA.intro hX.1 rfl (by decide +kernel) (Nat.le_of_ble_eq_true rfl) (fun z C Y E hn h1 hA => ?_)
  rw [show h1 = h from hA]
  clear hA
  have LP : ∀ (t k9 : Nat), k9 + t = 12 → (∀ j m, j < k9 → nI j ≠ k → f j = some m → α m ≠ a) → X z 0 0 (EQ h) 3 [some (.ref u), some (.int k), some (.long a), none, some (.int (nI k9))] [] := by
    intro t
    induction t with
    | zero =>
      intro k9 hk no
      obtain rfl : k9 = 12 := by omega
      refine x_iload C dX0_hasAnother_3 rfl ?_
      refine x_bipush (v := 12) C dX0_hasAnother_5 (by decide) ?_
      refine x_icmp_ge (tgt := 48) C dX0_hasAnother_7 (by decide) (fun _ => ?_) (fun c7 => absurd (Int32.le_refl _) c7)
      refine x_iconst (v := 0) C dX0_hasAnother_48 (by decide) ?_
      exact x_zret C E dX0_hasAnother_49 (by decide) (fun q e => ⟨e, Or.inr ⟨rfl, fun ⟨j, m, o1, o2, o3, o4⟩ => no j m o1 o2 o3 o4⟩⟩)
    | succ t ih =>
      intro k9 hk no
      have T42 : (∀ m, nI k9 ≠ k → f k9 = some m → α m ≠ a) → X z 0 0 (EQ h) 42 [some (.ref u), some (.int k), some (.long a), none, some (.int (nI k9))] [] := fun no9 => by
        refine o_iincE (v := nI (k9 + 1)) (L' := [some _, some _, some _, none, some _]) C dX0_hasAnother_42 rfl (nI_1 k9) (by rw [hn]; decide) rfl ?_
        refine x_goto (tgt := 3) C dX0_hasAnother_45 (by decide) ?_
        refine ih (k9 + 1) (by omega) (fun j m h1 h2 h3 => ?_)
        by_cases e : j = k9
        · subst e; exact no9 m h2 h3
        · exact no j m (by omega) h2 h3
      refine x_iload C dX0_hasAnother_3 rfl ?_
      refine x_bipush (v := 12) C dX0_hasAnother_5 (by decide) ?_
      refine x_icmp_ge (tgt := 48) C dX0_hasAnother_7 (by decide) (fun c7 => absurd c7 (Int32.not_le.mpr (nI_lt (show k9 < 12 by omega) (by decide)))) (fun c7 => ?_)
      refine x_iload C dX0_hasAnother_10 rfl ?_
      refine x_iload_n C dX0_hasAnother_12 rfl ?_
      refine x_icmp_eq (tgt := 42) C dX0_hasAnother_13 (by decide) (fun e => T42 (fun m n9 => absurd e n9)) (fun n9 => ?_)
      refine x_aload_n C dX0_hasAnother_16 rfl ?_
      refine e_get C Y kd_X0 0 (by decide) wf_X0_11 dX0_hasAnother_17 B rfl ?_
      refine x_iload C dX0_hasAnother_20 rfl ?_
      refine k_meter hX C E.cs D (show k9 < 12 by omega) dX0_hasAnother_22 (fun e => ?_) (fun m e hm => ?_)
      · exact x_ifnullN (tgt := 42) C dX0_hasAnother_23 (by decide) (T42 (fun m _ e2 => by rw [e] at e2; exact nomatch e2))
      · refine x_ifnull C dX0_hasAnother_23 ?_
        refine x_aload_n C dX0_hasAnother_26 rfl ?_
        refine e_get C Y kd_X0 0 (by decide) wf_X0_11 dX0_hasAnother_27 B rfl ?_
        refine x_iload C dX0_hasAnother_30 rfl ?_
        refine k_meter hX C E.cs D (show k9 < 12 by omega) dX0_hasAnother_32 (fun e2 => by rw [e] at e2; exact nomatch e2) (fun m2 e2 _ => ?_)
        obtain rfl : m = m2 := by rw [e] at e2; exact Option.some.inj e2
        refine x_lload_n C dX0_hasAnother_33 rfl ?_
        obtain ⟨n, n90, Dn⟩ := D
        obtain ⟨pr, se, pt, bt, ac, pg, sz, R, -⟩ := Dn.me hm
        refine u_callV (st := []) C Y hX.1 E.cs (t_hasAddress hX.1 R a) md_X2_hasAddress wi_X2_hasAddress ws_X2_hasAddress wm_X0_31 dX0_hasAnother_34 rfl (by decide) (by decide) R rfl rfl (by decide) ?_
        by_cases ea : α m = a
        · rw [show bI (α m = a) = 1 from if_pos ea]
          refine x_if_eq (tgt := 42) C dX0_hasAnother_37 (by decide) (fun q => absurd q (by decide)) (fun _ => ?_)
          refine x_iconst (v := 1) C dX0_hasAnother_40 (by decide) ?_
          exact x_zret C E dX0_hasAnother_41 (by decide) (fun q e9 => ⟨e9, Or.inl ⟨rfl, k9, m, by omega, n9, e, ea⟩⟩)
        · rw [show bI (α m = a) = 0 from if_neg ea]
          refine x_if_eq (tgt := 42) C dX0_hasAnother_37 (by decide) (fun _ => ?_) (fun q => absurd rfl q)
          exact T42 (fun m2 _ e2 => by rw [e] at e2; cases e2; exact ea)
  refine x_iconst (v := 0) C dX0_hasAnother_0 (by decide) ?_
  refine o_istoreE (L' := [some _, some _, some _, none, some _]) C dX0_hasAnother_1 (by rw [hn]; decide) rfl ?_
  exact LP 12 0 rfl (fun j m q => absurd q (by omega))
theorem u_meterNumber (hX : Wx w c) (D : BX c u ma an aa h0 W α f κ h) : T w gw yX0_meterNumber cX0_meterNumber 3 (some .int) 0 (40 * 0) 0 0 [.ref u] (EQ h) (fun r g => g = h ∧ ∃ v, r = some (.int v)) := by
  obtain ⟨fr, co, B⟩ := D.uc
  refine TA.intro hX.1 rfl (by decide +kernel) (Nat.le_of_ble_eq_true rfl) (fun z C Y E hn h1 hA => ?_)
  rw [show h1 = h from hA]
  clear hA
  have LP : ∀ (t k9 : Nat) (v : Int32), k9 + t = 12 → X z 0 0 (EQ h) 4 [some (.ref u), some (.int v), some (.int (nI k9))] [] := by
    intro t
    induction t with
    | zero =>
      intro k9 v hk
      obtain rfl : k9 = 12 := by omega
      refine x_iload_n C dX0_meterNumber_4 rfl ?_
      refine x_bipush (v := 12) C dX0_meterNumber_5 (by decide) ?_
      refine x_icmp_ge (tgt := 28) C dX0_meterNumber_7 (by decide) (fun _ => ?_) (fun c7 => absurd (Int32.le_refl _) c7)
      refine x_iload_n C dX0_meterNumber_28 rfl ?_
      exact x_iret C E dX0_meterNumber_29 (fun q e => ⟨e, _, rfl⟩)
    | succ t ih =>
      intro k9 v hk
      have T22 : ∀ v : Int32, X z 0 0 (EQ h) 22 [some (.ref u), some (.int v), some (.int (nI k9))] [] := fun v => by
        refine o_iincE (v := nI (k9 + 1)) (L' := [some _, some _, some _]) C dX0_meterNumber_22 rfl (nI_1 k9) (by rw [hn]; decide) rfl ?_
        refine x_goto (tgt := 4) C dX0_meterNumber_25 (by decide) ?_
        exact ih (k9 + 1) v (by omega)
      refine x_iload_n C dX0_meterNumber_4 rfl ?_
      refine x_bipush (v := 12) C dX0_meterNumber_5 (by decide) ?_
      refine x_icmp_ge (tgt := 28) C dX0_meterNumber_7 (by decide) (fun c7 => absurd c7 (Int32.not_le.mpr (nI_lt (show k9 < 12 by omega) (by decide)))) (fun c7 => ?_)
      refine x_aload_n C dX0_meterNumber_10 rfl ?_
      refine e_get C Y kd_X0 0 (by decide) wf_X0_11 dX0_meterNumber_11 B rfl ?_
      refine x_iload_n C dX0_meterNumber_14 rfl ?_
      refine k_meter hX C E.cs D (show k9 < 12 by omega) dX0_meterNumber_15 (fun e => ?_) (fun m e hm => ?_)
      · exact x_ifnullN (tgt := 22) C dX0_meterNumber_16 (by decide) (T22 v)
      · refine x_ifnull C dX0_meterNumber_16 ?_
        refine o_iincE (L' := [some _, some _, some _]) C dX0_meterNumber_19 rfl rfl (by rw [hn]; decide) rfl ?_
        exact T22 _
  refine x_iconst (v := 0) C dX0_meterNumber_0 (by decide) ?_
  refine o_istore_nE (L' := [some _, some _, none]) C dX0_meterNumber_1 (by rw [hn]; decide) rfl ?_
  refine x_iconst (v := 0) C dX0_meterNumber_2 (by decide) ?_
  refine o_istore_nE (L' := [some _, some _, some _]) C dX0_meterNumber_3 (by rw [hn]; decide) rfl ?_
  exact LP 12 0 0 rfl
variable {fr co : Int32}
theorem u_frameNumber (hX : Wx w c) (B : h u = some (.inr (0, [.ref ma, .ref an, .int fr, .int co]))) : TC w yX0_frameNumber cX0_frameNumber 1 (some .int) 0 [.ref u] h (some (.int fr)) h := by
  refine TC.intro hX.1 rfl (by decide +kernel) (Nat.le_of_ble_eq_true rfl) (fun z C Y E hn => ?_)
  refine x_aload_n C dX0_frameNumber_0 rfl ?_
  refine e_get C Y kd_X0 2 (by decide) wf_X0_24 dX0_frameNumber_1 B rfl ?_
  refine e_iret C E dX0_frameNumber_4 ?_ ?_
  all_goals rfl
theorem u_collisionNumber (hX : Wx w c) (B : h u = some (.inr (0, [.ref ma, .ref an, .int fr, .int co]))) : TC w yX0_collisionNumber cX0_collisionNumber 1 (some .int) 0 [.ref u] h (some (.int co)) h := by
  refine TC.intro hX.1 rfl (by decide +kernel) (Nat.le_of_ble_eq_true rfl) (fun z C Y E hn => ?_)
  refine x_aload_n C dX0_collisionNumber_0 rfl ?_
  refine e_get C Y kd_X0 3 (by decide) wf_X0_28 dX0_collisionNumber_1 B rfl ?_
  refine e_iret C E dX0_collisionNumber_4 ?_ ?_
  all_goals rfl
theorem u_lastAnswer (hX : Wx w c) (B : h u = some (.inr (0, [.ref ma, .ref an, .int fr, .int co]))) : TC w yX0_lastAnswer cX0_lastAnswer 1 (some (.object "MeterBus$Row")) 0 [.ref u] h (some (.ref an)) h := by
  refine TC.intro hX.1 rfl (by decide +kernel) (Nat.le_of_ble_eq_true rfl) (fun z C Y E hn => ?_)
  refine x_aload_n C dX0_lastAnswer_0 rfl ?_
  refine e_get C Y kd_X0 1 (by decide) wf_X0_20 dX0_lastAnswer_1 B rfl ?_
  exact e_aret C E (Or.inl ⟨_, rfl⟩) dX0_lastAnswer_4 (Or.inr ⟨_, rfl⟩) rfl rfl
end Bus
