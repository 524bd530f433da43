/-! THE LAW, from its entry: the world is made out of what the Statement gives. -/
theorem lt_T : Cond.initialized Bundle.tN ∈ lw_tbl := List.mem_of_getElem? (i := 61) (by decide +kernel)
theorem arr_of {s : State} {args : Array Value} {t : FieldType} (h : (Cond.arrayClass t).before args s = true) (ho : ∀ C, t ≠ .object C) : ∃ cA : ClassId, ArrOfT s cA t ∧ va_RA s cA t := by
  obtain ⟨cA, k, comp, h1, h2, h3⟩ := Cond.arrayClass_spec h
  refine ⟨cA, fun N z => ⟨(fun q hq => by cases hq), k, h2, comp, h3⟩, ?_⟩
  cases t <;> first | exact h1 | exact absurd rfl (ho _)
theorem arr_ofO {s : State} {args : Array Value} {n : String} (h : (Cond.arrayOver (.object n)).before args s = true) : ∃ cA : ClassId, ArrOfT s cA (.object n) ∧ va_RA s cA (.object n) := by
  obtain ⟨comp, cA, k, h1, h2, h3, h4, h5⟩ := Cond.arrayOver_spec h
  exact ⟨cA, fun N z => ⟨(fun q hq => by cases hq), k, h3, comp, h4⟩, k, comp, h3, h4, h1, h5⟩
theorem arr_ofA {s : State} {args : Array Value} {t : FieldType} (h : (Cond.arrayOver (.array t)).before args s = true) : ∃ cA : ClassId, ArrOfT s cA (.array t) ∧ va_RA s cA (.array t) := by
  obtain ⟨comp, cA, k, h1, h2, h3, h4⟩ := Cond.arrayOver_specA h
  exact ⟨cA, fun N z => ⟨(fun q hq => by cases hq), k, h2, comp, h3⟩, h4⟩
set_option maxHeartbeats 4000000 in
theorem gx_of {s : State} {b : Nat} (hts : ∀ w ∈ lw_tbl, w.before #[Value.ref b] s = true) (hgv : (Jvm.Cond.and given_1 narrow_1).before #[Value.ref b] s = true) (h6 : ∃ c6, s.vm.findClass RX6 = some c6) : Gx s.heap.size s s.heap := by
  have hs := flat_of_before _ hgv
  have hA : ∀ a : Nat, a < s.heap.size → ¬ (fun q : Nat => s.heap.size ≤ q) a := fun a h => Nat.not_le.mpr h
  have tx : ∀ {k : Nat} {t : String}, Cond.stringRef RX6 k t ∈ lw_tbl → ∃ sa : Nat, vk_R RX6 k t sa s := fun {k t} m => by
    obtain ⟨c6, e6⟩ := h6
    obtain ⟨_, _, _, a, _, _, _, _, _, ev⟩ := Cond.stringRef_spec (args := #[Value.ref b]) (first := s) (o := none) (idx := []) e6 (hts _ m)
    exact ⟨a, vk_R.of (hts _ m) ev⟩
  refine ⟨vx_Zqof (hts _ lt_U) (hts _ lt_T) (hs _ (by decide +kernel)) hA, vx_Zqof (hts _ lt_N) (hts _ lt_T) (hs _ (by decide +kernel)) hA, ?_, ?_, ⟨?_, ?_⟩, ?_, va_AO.of (hts _ lt_oX2), va_AO.of (hts _ lt_oX3), hts _ lt_oI⟩
  · intro E hE
    simp only [exs, List.mem_cons, List.not_mem_nil, or_false] at hE
    rcases hE with rfl | rfl | rfl
    · exact va_Nw.of rfl (hts _ lt_cIAE)
    · exact va_Nw.of rfl (hts _ lt_cUOE)
    · exact va_Nw.of rfl (hts _ lt_cIOOBE)
  · intro E hE F hF n
    simp only [exs, List.mem_cons, List.not_mem_nil, or_false] at hE hF
    rcases hE with rfl | rfl | rfl <;> rcases hF with rfl | rfl | rfl
    all_goals first | exact absurd rfl n | exact va_Nc.of (hs _ (by decide +kernel))
  · intro q hq
    simp only [txts, List.mem_cons, List.not_mem_nil, or_false] at hq
    rcases hq with rfl | rfl | rfl | rfl | rfl | rfl | rfl | rfl | rfl | rfl | rfl | rfl | rfl | rfl | rfl | rfl
    · exact tx lt_s49
    · exact tx lt_s60
    · exact tx lt_s67
    · exact tx lt_s74
    · exact tx lt_s85
    · exact tx lt_s90
    · exact tx lt_s95
    · exact tx lt_s103
    · exact tx lt_s118
    · exact tx lt_s120
    · exact tx lt_s129
    · exact tx lt_s154
    · exact tx lt_s156
    · exact tx lt_s193
    · exact tx lt_s201
    · exact tx lt_s215
  · intro n hn
    simp only [decl, List.mem_cons, List.not_mem_nil, or_false] at hn
    rcases hn with rfl | rfl | rfl
    · exact va_Nw.of rfl (hts _ lt_dRuntimeException)
    · exact va_Nw.of rfl (hts _ lt_dException)
    · exact va_Nw.of rfl (hts _ lt_dThrowable)
  · intro q hq
    simp only [nst, List.mem_cons, List.not_mem_nil, or_false] at hq
    rcases hq with rfl | rfl | rfl | rfl | rfl | rfl
    · exact va_Nw.of rfl (hts _ lt_X6_9)
    · exact va_Nw.of rfl (hts _ lt_X6_18)
    · exact va_Nw.of rfl (hts _ lt_X0_19)
    · exact va_Nw.of rfl (hts _ lt_X6_25)
    · exact va_Nw.of rfl (hts _ lt_X1_81)
    · exact va_Nw.of rfl (hts _ lt_X4_27)
set_option maxHeartbeats 4000000 in
set_option maxRecDepth 100000 in
theorem whole_start {p : Program} {e : Env} {s : State} {m : MethodId} {below : List Frame} {meth : Method} {c : Code} (l : Launch) (hfl : l.stackTraces = false) {b L : Nat} {xs : Nat → Int32} (hL : L ≤ 3584) (C0 : lw_At p s m meth c b L xs) : W p l e room_1 s m #[Value.ref b] below meth c s.heap [] 0 0 (lw_Z below #[Value.ref b] s) (entryFrame m ([Value.ref b] : List Value).toArray 8) := by
  obtain ⟨hx, hb, hr, hml, hown, hts, hX, hbl, hlocks, hgv⟩ := id C0
  have htg : ∀ w ∈ gw, w.before #[Value.ref b] s = true := fun w hw => hts w (List.mem_filter.mp hw).1

  obtain ⟨c0, i0, k0⟩ := u_known (C := RX0) (T := TX0) (N := 4) (n := 4) htg in_X0 (htg _ wn_X0)
  obtain ⟨c1, i1, k1⟩ := u_known (C := RX1) (T := TX1) (N := 7) (n := 7) htg in_X1 (htg _ wn_X1)
  obtain ⟨c2, i2, k2⟩ := u_known (C := RX2) (T := TX2) (N := 8) (n := 8) htg in_X2 (htg _ wn_X2)
  obtain ⟨c3, i3, k3⟩ := u_known (C := RX3) (T := TX3) (N := 10) (n := 10) htg in_X3 (htg _ wn_X3)
  obtain ⟨c4, i4, k4⟩ := u_known (C := RX4) (T := TX4) (N := 2) (n := 2) htg in_X4 (htg _ wn_X4)
  obtain ⟨c5, i5, k5⟩ := u_known (C := RX5) (T := TX5) (N := 2) (n := 2) htg in_X5 (htg _ wn_X5)
  obtain ⟨c6, i6, k6⟩ := u_known (C := RX6) (T := TX6) (N := 6) (n := 6) htg in_X6 (htg _ wn_X6)
  obtain ⟨c7, i7, k7⟩ := u_known (C := RX7) (T := TX7) (N := 42) (n := 42) htg in_X7 (htg _ wn_X7)
  obtain ⟨dC, dI, hKc⟩ : ∃ (dC : Nat → ClassId) (dI : Nat → Nat → Nat), ∀ (k : Nat) (q : vw_C), vwCl[k]? = some q → u_Kn s q.1 q.2.1 q.2.2 (dC k) (dI k) := by
    refine ⟨fun k => match k with | 0 => c0 | 1 => c1 | 2 => c2 | 3 => c3 | 4 => c4 | 5 => c5 | 6 => c6 | _ => c7, fun k => match k with | 0 => i0 | 1 => i1 | 2 => i2 | 3 => i3 | 4 => i4 | 5 => i5 | 6 => i6 | _ => i7, ?_⟩
    intro k q hq
    match k, hq with
    | 0, hq => cases hq; exact k0
    | 1, hq => cases hq; exact k1
    | 2, hq => cases hq; exact k2
    | 3, hq => cases hq; exact k3
    | 4, hq => cases hq; exact k4
    | 5, hq => cases hq; exact k5
    | 6, hq => cases hq; exact k6
    | 7, hq => cases hq; exact k7
    | k + 8, hq => simp [vwCl] at hq
  obtain ⟨d0, a0⟩ := arr_of (htg _ wa_int) (fun C h => by cases h)
  obtain ⟨d1, a1⟩ := arr_of (htg _ wa_long) (fun C h => by cases h)
  obtain ⟨d2, a2⟩ := arr_of (htg _ wa_boolean) (fun C h => by cases h)
  obtain ⟨d3, a3⟩ := arr_ofO (hts _ lt_oX2)
  obtain ⟨d4, a4⟩ := arr_ofO (hts _ lt_oX3)
  obtain ⟨d5, a5⟩ := arr_ofA (hts _ lt_oI)
  have hG := gx_of hts hgv ⟨c6, k6.2.1⟩
  have hK : va_K (dC, dI) vwCl [(d0, .int), (d1, .long), (d2, .boolean), (d3, .object RX2), (d4, .object RX3), (d5, .array .int)] s := by
    refine ⟨hKc, fun k q hq => ?_⟩
    match k, hq with
    | 0, hq => cases hq; exact a0
    | 1, hq => cases hq; exact a1
    | 2, hq => cases hq; exact a2
    | 3, hq => cases hq; exact a3
    | 4, hq => cases hq; exact a4
    | 5, hq => cases hq; exact a5
    | k + 6, hq => simp at hq
  have hWx : Wx (l, (dC, dI), vwCl, [(d0, .int), (d1, .long), (d2, .boolean), (d3, .object RX2), (d4, .object RX3), (d5, .array .int)], s.heap.size, Gx s.heap.size) (fun i => match i with | 0 => d0 | 1 => d1 | 2 => d2 | 3 => d3 | 4 => d4 | _ => d5) :=
    ⟨⟨⟨fun u U H H1 hW hq g => Gx.warm hW hq g, fun u U H h g => Gx.same h g⟩, rfl, ⟨0, rfl⟩, ⟨1, rfl⟩, ⟨2, rfl⟩⟩, hfl, rfl, ⟨3, rfl⟩, ⟨4, rfl⟩, ⟨5, rfl⟩⟩
  have hl := lv_entry ([.ref b]) (n := 8) (Nat.le_of_ble_eq_true rfl)
  rw [lg_entry_eq]
  generalize (lg_sl ([.ref b]) ++ List.replicate (8 - (lg_sl ([.ref b])).length) Slot.unset).toArray = ls at hl ⊢
  have K := law_start (z := ((p, l, e, room_1, s), (m, #[Value.ref b], below, meth, c), ((dC, dI), vwCl, [(d0, .int), (d1, .long), (d2, .boolean), (d3, .object RX2), (d4, .object RX3), (d5, .array .int)], s.heap.size), (8, 601024, 7293034), lw_Z below #[Value.ref b] s)) hWx
    ⟨hx, hb, hml, hown, htg, hK, Nat.le_refl _, Nat.le_refl _, Nat.le_refl _⟩ ⟨rfl, rfl, rfl, rfl, rfl, rfl, rfl, hG⟩ ⟨rfl, rfl, rfl, rfl, rfl, rfl, rfl, hr, hlocks, hbl⟩ hL hX (fun _ => none)
  refine K s.heap [] ls 0 0 ⟨fun _ => none, rfl, [], fun _ => .inr (0, []), fun a e h => (nomatch h), fun k q h => by simp [va_pl] at h, ⟨fun i j p q h => by simp [va_pl] at h, fun k q h => by simp [va_pl] at h⟩⟩ va_S.rf ⟨hl.1, hl.2.1, fun i v g => ?_⟩ (show 0 + 537640 ≤ 601024 by decide) (show 0 + 4149656 ≤ 7293034 by decide)
  have g' : (lent 8 [Value.ref b])[i]? = some (some v) := g
  have := lent_get (k := 0) g'
  rw [Nat.zero_add] at this
  exact hl.2.2 (i, v) this
