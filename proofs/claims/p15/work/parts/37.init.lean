/-! MeterBusModel: its making. -/
section Rows
variable {z : Fx} {own : String} {cc : ByteArray} {kc ks pc : Nat} {A : PH → Prop} {L : List (Option Value)} {st : List Value}
theorem x_objInit (C : Cx z own cc gw) {a index : Nat} (w : Cond.methodLink own index objectInit ∈ gw) (d : decode cc pc = .ok (.invokespecial index, 3)) (hf : 1 ≤ z.R.frames) (hl : (st.map fun v => v.category).sum + 12 ≤ z.R.locals) (k : X z kc ks A (pc + 3) L st) : X z kc ks A pc L (.ref a :: st) := by
  intro H locs ls cells slots hp hS hl0 c1 c2
  exact W.objInit C.x C.b C.ow (C.ts _ w) (C.ts _ wi_objectInit) (C.ts _ wo_objectInit) (g := F0 z.m pc ls (.ref a :: st)) rfl (by rw [C.ml]; exact hl0.1) rfl d hf (by simp [JFrame.monitorRoom]; omega) (k H locs ls cells slots hp hS hl0 c1 c2)
end Rows
theorem m_kd_lt {k : Nat} (h : m_kd k ≠ 0) : k < 42 := by
  unfold m_kd at h
  split at h <;> first | omega | exact absurd rfl h
def Zm : MS := (fun _ => 0, fun _ _ => 0, fun _ _ => 0)
def i_val (ad : Nat → Nat) (K : Nat) (pl : Int32) (k : Nat) : Value := if m_kd k = 0 then .int (if k = 36 then pl else 0) else if k < K then .ref (ad k) else .null
def i_fs (ad : Nat → Nat) (K : Nat) (pl : Int32) : List Value := (List.range 42).map (i_val ad K pl)
/-- the arrays of the fields below K are made -/
def IA (c : Nat → ClassId) (o : Nat) (h0 : PH) (ad : Nat → Nat) (K : Nat) (pl : Int32) : PH → Prop := fun h =>
  h o = some (.inr (7, i_fs ad K pl)) ∧ (∀ k, m_kd k ≠ 0 → k < K → h (ad k) = some (m_cell c Zm k)) ∧ (∀ j k, m_kd j ≠ 0 → m_kd k ≠ 0 → j < K → k < K → ad j = ad k → j = k) ∧ (∀ k, m_kd k ≠ 0 → k < K → ad k ≠ o ∧ h0 (ad k) = none) ∧ ∀ q, q ≠ o → (∀ k, m_kd k ≠ 0 → k < K → q ≠ ad k) → h q = h0 q
def IE (c : Nat → ClassId) (o : Nat) (h0 : PH) (K : Nat) (pl : Int32) : PH → Prop := fun h => ∃ ad, IA c o h0 ad K pl h
theorem i_fs_get {ad : Nat → Nat} {K : Nat} {pl : Int32} {k : Nat} (h : k < 42) : (i_fs ad K pl)[k]? = some (i_val ad K pl k) := by simp [i_fs, h]
theorem i_fs_len (ad : Nat → Nat) (K : Nat) (pl : Int32) : (i_fs ad K pl).length = 42 := by simp [i_fs]
theorem i_fs_ext {l : List Value} {ad : Nat → Nat} {K : Nat} {pl : Int32} (hl : l.length = 42) (h : ∀ k, k < 42 → l[k]? = some (i_val ad K pl k)) : l = i_fs ad K pl := by
  apply List.ext_getElem?
  intro j
  by_cases hj : j < 42
  · rw [h j hj, i_fs_get hj]
  · rw [List.getElem?_eq_none (by omega), List.getElem?_eq_none (by rw [i_fs_len]; omega)]
/-- a new array q into field k -/
theorem IA.step {c : Nat → ClassId} {o K k q : Nat} {h0 : PH} {ad : Nat → Nat} {pl : Int32} {h : PH} (hi : IA c o h0 ad K pl h) (hk : m_kd k ≠ 0) (hK : ∀ j, j < 42 → m_kd j ≠ 0 → (j < k ↔ j < K)) (hq : h q = none) :
    IA c o h0 (va_up ad k q) (k + 1) pl (hs (hs h q (m_cell c Zm k)) o (.inr (7, (i_fs ad K pl).set k (.ref q)))) := by
  obtain ⟨i1, i2, i3, i4, i5⟩ := hi
  have hk42 := m_kd_lt hk
  have hlt : ∀ j, m_kd j ≠ 0 → j < k + 1 → j ≠ k → j < K := fun j hj h1 h2 => (hK j (m_kd_lt hj) hj).mp (by omega)
  have hqo : q ≠ o := fun e => by rw [e, i1] at hq; exact nomatch hq
  have hqa : ∀ j, m_kd j ≠ 0 → j < K → q ≠ ad j := fun j h1 h2 e => by rw [e, i2 j h1 h2] at hq; exact nomatch hq
  have hq0 : h0 q = none := by rw [← i5 q hqo hqa]; exact hq
  refine ⟨?_, fun j hj h1 => ?_, fun i j hi hj h1 h2 e => ?_, fun j hj h1 => ?_, fun x h1 h2 => ?_⟩
  · rw [hs_self]
    refine congrArg (fun t => some (Sum.inr (7, t))) ?_
    refine i_fs_ext (by rw [List.length_set, i_fs_len]) (fun j hj => ?_)
    by_cases e : k = j
    · subst e
      rw [List.getElem?_set_self (by rw [i_fs_len]; exact hj)]
      unfold i_val
      rw [if_neg hk, if_pos (by omega), va_up_self]
    · rw [List.getElem?_set_ne e, i_fs_get hj]
      unfold i_val
      by_cases e0 : m_kd j = 0
      · rw [if_pos e0, if_pos e0]
      · rw [if_neg e0, if_neg e0, va_up_ne _ _ (Ne.symm e)]
        have := hK j hj e0
        by_cases g : j < K
        · rw [if_pos g, if_pos (by omega)]
        · rw [if_neg g, if_neg (by omega)]
  · by_cases e : j = k
    · subst e
      rw [va_up_self, hs_ne hqo, hs_self]
    · have g := hlt j hj h1 e
      rw [va_up_ne _ _ e, hs_ne (i4 j hj g).1, hs_ne (Ne.symm (hqa j hj g))]
      exact i2 j hj g
  · by_cases ei : i = k
    · by_cases ej : j = k
      · omega
      · subst ei
        rw [va_up_self, va_up_ne _ _ ej] at e
        exact absurd e (hqa j hj (hlt j hj h2 ej))
    · by_cases ej : j = k
      · subst ej
        rw [va_up_self, va_up_ne _ _ ei] at e
        exact absurd e.symm (hqa i hi (hlt i hi h1 ei))
      · rw [va_up_ne _ _ ei, va_up_ne _ _ ej] at e
        exact i3 i j hi hj (hlt i hi h1 ei) (hlt j hj h2 ej) e
  · by_cases e : j = k
    · subst e
      rw [va_up_self]
      exact ⟨hqo, hq0⟩
    · rw [va_up_ne _ _ e]
      exact i4 j hj (hlt j hj h1 e)
  · have hxq : x ≠ q := by
      have := h2 k hk (by omega)
      rw [va_up_self] at this
      exact this
    rw [hs_ne h1, hs_ne hxq]
    refine i5 x h1 (fun j hj g => ?_)
    have hj2 := (hK j (m_kd_lt hj) hj).mpr g
    have := h2 j hj (by omega)
    rw [va_up_ne _ _ (by omega)] at this
    exact this
section Init
variable {z : Fx} {cc : ByteArray} {kc ks pc : Nat} {L : List (Option Value)} {w : Wd} {rt : Option FieldType} {fr lo : Nat} {P : Option Value → PH → Prop} {c : Nat → ClassId} {o K : Nat} {h0 : PH} {pl : Int32}
theorem i_put (C : Cx z RX7 cc gw) (hin : z.meth.name = "<init>") (hcl : z.cl = vwCl) {ad : Nat → Nat} {q : Nat} (k : Nat) {index : Nat} (hk : m_kd k ≠ 0) (hK : ∀ j, j < 42 → m_kd j ≠ 0 → (j < k ↔ j < K)) (hfin : (TX7 k).2.2.2 = true) (hown : (TX7 k).1 = RX7) (hna : narrow (tyX7 k) (.ref q) = .ref q) (hfi : fits (tyX7 k) (.ref q) = true) (wf : Cond.fieldLink RX7 index (TX7 k).1 (TX7 k).2.1 (TX7 k).2.2.1 ∈ gw) (d : decode cc pc = .ok (.putfield index, 3))
    (kk : X z kc ks (IE c o h0 (k + 1) pl) (pc + 3) L []) : X z kc ks (fun h => ∃ h1, IA c o h0 ad K pl h1 ∧ h1 q = none ∧ h = hs h1 q (m_cell c Zm k)) pc L [.ref q, .ref o] := by
  have kd : Kd z.cl gw 7 RX7 TX7 42 tyX7 := by rw [hcl]; exact kd_X7
  refine x_putF (fs := i_fs ad K pl) (B := IE c o h0 (k + 1) pl) C hin kd k (m_kd_lt hk) hfin hown wf d (fun h ⟨h1, g1, g2, g3⟩ => ?_) (by rw [i_fs_len]; exact m_kd_lt hk) hna hfi (fun h ⟨h1, g1, g2, g3⟩ => ?_) kk
  · rw [g3, hs_ne (fun e => by rw [← e, g1.1] at g2; exact nomatch g2)]
    exact g1.1
  · rw [g3]
    exact ⟨_, g1.step hk hK g2⟩
theorem i_newi (C : Cx z RX7 cc gw) (hin : z.meth.name = "<init>") (hcl : z.cl = vwCl) {t0 : Nat} (ht : z.tys[t0]? = some (c 0, .int)) (k : Nat) {index : Nat} {n : Int32} (hn0 : n = nI (m_len k)) (hk : m_kd k = 1) (hK : ∀ j, j < 42 → m_kd j ≠ 0 → (j < k ↔ j < K)) (hfin : (TX7 k).2.2.2 = true) (hown : (TX7 k).1 = RX7) (hna : ∀ q, narrow (tyX7 k) (.ref q) = .ref q) (hfi : ∀ q, fits (tyX7 k) (.ref q) = true) (wf : Cond.fieldLink RX7 index (TX7 k).1 (TX7 k).2.1 (TX7 k).2.2.1 ∈ gw) (d1 : decode cc pc = .ok (.newarray .int, 2)) (d2 : decode cc (pc + 2) = .ok (.putfield index, 3))
    (kk : X z kc ks (IE c o h0 (k + 1) pl) (pc + 5) L []) : X z (kc + 1) (ks + m_len k) (IE c o h0 K pl) pc L [.int n, .ref o] := by
  have hl : m_len k ≤ 26000 := by unfold m_len; split <;> decide
  subst hn0
  refine X.ex (fun ad => ?_)
  refine x_newi (N := m_len k) (Bq := fun q h => ∃ h1, IA c o h0 ad K pl h1 ∧ h1 q = none ∧ h = hs h1 q (m_cell c Zm k)) C ht wa_int d1 (nI_pos (by omega)) (nI_clamp (by omega)) (by omega) (fun h q g1 g2 => ⟨h, g1, g2, by simp only [m_cell, hk]; rfl⟩) (fun q => ?_)
  exact i_put C hin hcl k (by omega) hK hfin hown (hna q) (hfi q) wf d2 kk
theorem i_newz (C : Cx z RX7 cc gw) (hin : z.meth.name = "<init>") (hcl : z.cl = vwCl) {t0 : Nat} (ht : z.tys[t0]? = some (c 2, .boolean)) (k : Nat) {index : Nat} {n : Int32} (hn0 : n = nI (m_len k)) (hk : m_kd k = 2) (hK : ∀ j, j < 42 → m_kd j ≠ 0 → (j < k ↔ j < K)) (hfin : (TX7 k).2.2.2 = true) (hown : (TX7 k).1 = RX7) (hna : ∀ q, narrow (tyX7 k) (.ref q) = .ref q) (hfi : ∀ q, fits (tyX7 k) (.ref q) = true) (wf : Cond.fieldLink RX7 index (TX7 k).1 (TX7 k).2.1 (TX7 k).2.2.1 ∈ gw) (d1 : decode cc pc = .ok (.newarray .boolean, 2)) (d2 : decode cc (pc + 2) = .ok (.putfield index, 3))
    (kk : X z kc ks (IE c o h0 (k + 1) pl) (pc + 5) L []) : X z (kc + 1) (ks + m_len k) (IE c o h0 K pl) pc L [.int n, .ref o] := by
  have hl : m_len k ≤ 26000 := by unfold m_len; split <;> decide
  subst hn0
  refine X.ex (fun ad => ?_)
  refine x_newz (N := m_len k) (Bq := fun q h => ∃ h1, IA c o h0 ad K pl h1 ∧ h1 q = none ∧ h = hs h1 q (m_cell c Zm k)) C ht wa_boolean d1 (nI_pos (by omega)) (nI_clamp (by omega)) (by omega) (fun h q g1 g2 => ⟨h, g1, g2, by simp only [m_cell, hk]; rfl⟩) (fun q => ?_)
  exact i_put C hin hcl k (by omega) hK hfin hown (hna q) (hfi q) wf d2 kk
theorem i_newl (C : Cx z RX7 cc gw) (hin : z.meth.name = "<init>") (hcl : z.cl = vwCl) {t0 : Nat} (ht : z.tys[t0]? = some (c 1, .long)) (k : Nat) {index : Nat} {n : Int32} (hn0 : n = nI (m_len k)) (hk : m_kd k = 3) (hK : ∀ j, j < 42 → m_kd j ≠ 0 → (j < k ↔ j < K)) (hfin : (TX7 k).2.2.2 = true) (hown : (TX7 k).1 = RX7) (hna : ∀ q, narrow (tyX7 k) (.ref q) = .ref q) (hfi : ∀ q, fits (tyX7 k) (.ref q) = true) (wf : Cond.fieldLink RX7 index (TX7 k).1 (TX7 k).2.1 (TX7 k).2.2.1 ∈ gw) (d1 : decode cc pc = .ok (.newarray .long, 2)) (d2 : decode cc (pc + 2) = .ok (.putfield index, 3))
    (kk : X z kc ks (IE c o h0 (k + 1) pl) (pc + 5) L []) : X z (kc + 1) (ks + m_len k) (IE c o h0 K pl) pc L [.int n, .ref o] := by
  have hl : m_len k ≤ 26000 := by unfold m_len; split <;> decide
  subst hn0
  refine X.ex (fun ad => ?_)
  refine x_newl (N := m_len k) (Bq := fun q h => ∃ h1, IA c o h0 ad K pl h1 ∧ h1 q = none ∧ h = hs h1 q (m_cell c Zm k)) C ht wa_long d1 (nI_pos (by omega)) (nI_clamp (by omega)) (by omega) (fun h q g1 g2 => ⟨h, g1, g2, by simp only [m_cell, hk]; rfl⟩) (fun q => ?_)
  exact i_put C hin hcl k (by omega) hK hfin hown (hna q) (hfi q) wf d2 kk
theorem i_place (C : Cx z RX7 cc gw) (hcl : z.cl = vwCl) {index : Nat} (wf : Cond.fieldLink RX7 index (TX7 36).1 (TX7 36).2.1 (TX7 36).2.2.1 ∈ gw) (d : decode cc pc = .ok (.putfield index, 3)) {v : Int32}
    (kk : X z kc ks (IE c o h0 K v) (pc + 3) L []) : X z kc ks (IE c o h0 K pl) pc L [.int v, .ref o] := by
  have kd : Kd z.cl gw 7 RX7 TX7 42 tyX7 := by rw [hcl]; exact kd_X7
  refine X.ex (fun ad => ?_)
  refine x_put (fs := i_fs ad K pl) (B := IE c o h0 K v) C kd 36 (by decide) rfl wf d (fun h g => g.1) (by rw [i_fs_len]; decide) rfl rfl (fun h ⟨i1, i2, i3, i4, i5⟩ => ⟨ad, ?_, fun k h1 h2 => ?_, i3, i4, fun q h1 h2 => ?_⟩) kk
  · rw [hs_self]
    refine congrArg (fun t => some (Sum.inr (7, t))) ?_
    refine i_fs_ext (by rw [List.length_set, i_fs_len]) (fun j hj => ?_)
    by_cases e : 36 = j
    · subst e
      rw [List.getElem?_set_self (by rw [i_fs_len]; exact hj)]
      rfl
    · rw [List.getElem?_set_ne e, i_fs_get hj]
      unfold i_val
      rw [if_neg (Ne.symm e), if_neg (Ne.symm e)]
  · rw [hs_ne (i4 k h1 h2).1]
    exact i2 k h1 h2
  · rw [hs_ne h1]
    exact i5 q h1 h2
def Z0 : MS := Zm.si 36 (-1)
/-- MeterBusModel(): all arrays made, all numbers 0 but the place -/
theorem s_init {h0 : PH} {l : List Value} (hw : w.ok) (hcl0 : w.cl = vwCl) {c : Nat → ClassId} {t0 t1 t2 : Nat} (ht00 : w.tys[t0]? = some (c 0, .int)) (ht10 : w.tys[t1]? = some (c 1, .long)) (ht20 : w.tys[t2]? = some (c 2, .boolean)) {o : Nat} (ho : h0 o = some (.inr (7, l))) (hl : l = i_fs (fun _ => 0) 0 0) :
    T w gw yX7_init cX7_init 1 none 1 40 27 32385 [.ref o] (fun h => h = h0) (fun r h => r = none ∧ ∃ ad : Nat → Nat, MW.ok (c, o, ad, h0) ∧ (∀ k, m_kd k ≠ 0 → h0 (ad k) = none) ∧ MA (c, o, ad, h0) Z0 h) := by
  refine T.intro (by decide +kernel) (Nat.le_of_ble_eq_true rfl) (fun z C E e1 e2 e3 => ?_)
  have hcl : z.cl = vwCl := E.2.2.1.trans hcl0
  have hin : z.meth.name = "<init>" := E.2.2.2.2.2.2.2.2.2.1
  have ht0 : z.tys[t0]? = some (c 0, .int) := by rw [E.2.2.2.1]; exact ht00
  have ht1 : z.tys[t1]? = some (c 1, .long) := by rw [E.2.2.2.1]; exact ht10
  have ht2 : z.tys[t2]? = some (c 2, .boolean) := by rw [E.2.2.2.1]; exact ht20
  have hfr : z.R.frames = 1 := E.2.2.2.2.2.1
  have hlo : z.R.locals = 40 := E.2.2.2.2.2.2.1
  have hfin : ∀ h, IE c o h0 39 (-1) h → ∃ ad : Nat → Nat, MW.ok (c, o, ad, h0) ∧ (∀ k, m_kd k ≠ 0 → h0 (ad k) = none) ∧ MA (c, o, ad, h0) Z0 h := by
    intro h ⟨ad, i1, i2, i3, i4, i5⟩
    have hlt : ∀ k, m_kd k ≠ 0 → k < 39 := fun k hk => by
      unfold m_kd at hk
      split at hk <;> first | omega | exact absurd rfl hk
    refine ⟨ad, ⟨fun j k hj hk e => i3 j k hj hk (hlt j hj) (hlt k hk) e, fun k hk => (i4 k hk (hlt k hk)).1⟩, fun k hk => (i4 k hk (hlt k hk)).2, ?_, fun k hk => i2 k hk (hlt k hk), fun q h1 h2 => i5 q h1 (fun k hk _ => h2 k hk)⟩
    rw [show h o = some (.inr (7, i_fs ad 39 (-1))) from i1]
    refine congrArg (fun t => some (Sum.inr (7, t))) ?_
    unfold i_fs m_fs
    refine List.map_congr_left (fun k hk => ?_)
    unfold i_val m_val
    by_cases e0 : m_kd k = 0
    · rw [if_pos e0, if_pos e0]; rfl
    · rw [if_neg e0, if_neg e0, if_pos (hlt k e0)]
  refine X.heap (A' := IE c o h0 0 0) ?_ (fun h e => ⟨fun _ => 0, by rw [e, ho, hl], fun k _ h => absurd h (by omega), fun _ _ _ _ h => absurd h (by omega), fun _ _ h => absurd h (by omega), fun q _ _ => by rw [e]⟩)
  refine x_aload_n C dX7_init_0 rfl ?_
  refine x_objInit C wm_X7_1 dX7_init_1 (by rw [hfr]; exact Nat.le_refl 1) (by rw [hlo]; decide) ?_
  refine x_aload_n C dX7_init_4 rfl ?_
  refine x_sipush (v := 300) C dX7_init_5 (by decide) ?_
  refine i_newi (kc := 26) (ks := 32085) (K := 0) C hin hcl ht0 1 rfl rfl (by decide) rfl rfl (fun _ => rfl) (fun _ => rfl) wf_X7_7 dX7_init_8 dX7_init_10 ?_
  refine x_aload_n C dX7_init_13 rfl ?_
  refine x_sipush (v := 300) C dX7_init_14 (by decide) ?_
  refine i_newi (kc := 25) (ks := 31785) (K := 2) C hin hcl ht0 3 rfl rfl (by decide) rfl rfl (fun _ => rfl) (fun _ => rfl) wf_X7_13 dX7_init_17 dX7_init_19 ?_
  refine x_aload_n C dX7_init_22 rfl ?_
  refine x_sipush (v := 300) C dX7_init_23 (by decide) ?_
  refine i_newi (kc := 24) (ks := 31485) (K := 4) C hin hcl ht0 5 rfl rfl (by decide) rfl rfl (fun _ => rfl) (fun _ => rfl) wf_X7_16 dX7_init_26 dX7_init_28 ?_
  refine x_aload_n C dX7_init_31 rfl ?_
  refine x_bipush (v := 12) C dX7_init_32 (by decide) ?_
  refine i_newz (kc := 23) (ks := 31473) (K := 6) C hin hcl ht2 10 rfl rfl (by decide) rfl rfl (fun _ => rfl) (fun _ => rfl) wf_X7_19 dX7_init_34 dX7_init_36 ?_
  refine x_aload_n C dX7_init_39 rfl ?_
  refine x_bipush (v := 12) C dX7_init_40 (by decide) ?_
  refine i_newi (kc := 22) (ks := 31461) (K := 11) C hin hcl ht0 11 rfl rfl (by decide) rfl rfl (fun _ => rfl) (fun _ => rfl) wf_X7_23 dX7_init_42 dX7_init_44 ?_
  refine x_aload_n C dX7_init_47 rfl ?_
  refine x_bipush (v := 96) C dX7_init_48 (by decide) ?_
  refine i_newi (kc := 21) (ks := 31365) (K := 12) C hin hcl ht0 12 rfl rfl (by decide) rfl rfl (fun _ => rfl) (fun _ => rfl) wf_X7_26 dX7_init_50 dX7_init_52 ?_
  refine x_aload_n C dX7_init_55 rfl ?_
  refine x_bipush (v := 12) C dX7_init_56 (by decide) ?_
  refine i_newz (kc := 20) (ks := 31353) (K := 13) C hin hcl ht2 13 rfl rfl (by decide) rfl rfl (fun _ => rfl) (fun _ => rfl) wf_X7_29 dX7_init_58 dX7_init_60 ?_
  refine x_aload_n C dX7_init_63 rfl ?_
  refine x_bipush (v := 12) C dX7_init_64 (by decide) ?_
  refine i_newi (kc := 19) (ks := 31341) (K := 14) C hin hcl ht0 14 rfl rfl (by decide) rfl rfl (fun _ => rfl) (fun _ => rfl) wf_X7_32 dX7_init_66 dX7_init_68 ?_
  refine x_aload_n C dX7_init_71 rfl ?_
  refine x_bipush (v := 12) C dX7_init_72 (by decide) ?_
  refine i_newi (kc := 18) (ks := 31329) (K := 15) C hin hcl ht0 15 rfl rfl (by decide) rfl rfl (fun _ => rfl) (fun _ => rfl) wf_X7_35 dX7_init_74 dX7_init_76 ?_
  refine x_aload_n C dX7_init_79 rfl ?_
  refine x_bipush (v := 12) C dX7_init_80 (by decide) ?_
  refine i_newi (kc := 17) (ks := 31317) (K := 16) C hin hcl ht0 16 rfl rfl (by decide) rfl rfl (fun _ => rfl) (fun _ => rfl) wf_X7_38 dX7_init_82 dX7_init_84 ?_
  refine x_aload_n C dX7_init_87 rfl ?_
  refine x_bipush (v := 36) C dX7_init_88 (by decide) ?_
  refine i_newi (kc := 16) (ks := 31281) (K := 17) C hin hcl ht0 17 rfl rfl (by decide) rfl rfl (fun _ => rfl) (fun _ => rfl) wf_X7_41 dX7_init_90 dX7_init_92 ?_
  refine x_aload_n C dX7_init_95 rfl ?_
  refine x_sipush (v := 2160) C dX7_init_96 (by decide) ?_
  refine i_newi (kc := 15) (ks := 29121) (K := 18) C hin hcl ht0 18 rfl rfl (by decide) rfl rfl (fun _ => rfl) (fun _ => rfl) wf_X7_44 dX7_init_99 dX7_init_101 ?_
  refine x_aload_n C dX7_init_104 rfl ?_
  refine x_bipush (v := 8) C dX7_init_105 (by decide) ?_
  refine i_newi (kc := 14) (ks := 29113) (K := 19) C hin hcl ht0 19 rfl rfl (by decide) rfl rfl (fun _ => rfl) (fun _ => rfl) wf_X7_47 dX7_init_107 dX7_init_109 ?_
  refine x_aload_n C dX7_init_112 rfl ?_
  refine x_sipush (v := 800) C dX7_init_113 (by decide) ?_
  refine i_newi (kc := 13) (ks := 28313) (K := 20) C hin hcl ht0 21 rfl rfl (by decide) rfl rfl (fun _ => rfl) (fun _ => rfl) wf_X7_50 dX7_init_116 dX7_init_118 ?_
  refine x_aload_n C dX7_init_121 rfl ?_
  refine x_bipush (v := 13) C dX7_init_122 (by decide) ?_
  refine i_newi (kc := 12) (ks := 28300) (K := 22) C hin hcl ht0 22 rfl rfl (by decide) rfl rfl (fun _ => rfl) (fun _ => rfl) wf_X7_53 dX7_init_124 dX7_init_126 ?_
  refine x_aload_n C dX7_init_129 rfl ?_
  refine x_bipush (v := 100) C dX7_init_130 (by decide) ?_
  refine i_newl (kc := 11) (ks := 28200) (K := 23) C hin hcl ht1 24 rfl rfl (by decide) rfl rfl (fun _ => rfl) (fun _ => rfl) wf_X7_56 dX7_init_132 dX7_init_134 ?_
  refine x_aload_n C dX7_init_137 rfl ?_
  refine x_bipush (v := 100) C dX7_init_138 (by decide) ?_
  refine i_newi (kc := 10) (ks := 28100) (K := 25) C hin hcl ht0 25 rfl rfl (by decide) rfl rfl (fun _ => rfl) (fun _ => rfl) wf_X7_60 dX7_init_140 dX7_init_142 ?_
  refine x_aload_n C dX7_init_145 rfl ?_
  refine x_bipush (v := 100) C dX7_init_146 (by decide) ?_
  refine i_newi (kc := 9) (ks := 28000) (K := 26) C hin hcl ht0 26 rfl rfl (by decide) rfl rfl (fun _ => rfl) (fun _ => rfl) wf_X7_63 dX7_init_148 dX7_init_150 ?_
  refine x_aload_n C dX7_init_153 rfl ?_
  refine x_bipush (v := 100) C dX7_init_154 (by decide) ?_
  refine i_newl (kc := 8) (ks := 27900) (K := 27) C hin hcl ht1 27 rfl rfl (by decide) rfl rfl (fun _ => rfl) (fun _ => rfl) wf_X7_66 dX7_init_156 dX7_init_158 ?_
  refine x_aload_n C dX7_init_161 rfl ?_
  refine x_bipush (v := 100) C dX7_init_162 (by decide) ?_
  refine i_newi (kc := 7) (ks := 27800) (K := 28) C hin hcl ht0 28 rfl rfl (by decide) rfl rfl (fun _ => rfl) (fun _ => rfl) wf_X7_69 dX7_init_164 dX7_init_166 ?_
  refine x_aload_n C dX7_init_169 rfl ?_
  refine x_bipush (v := 100) C dX7_init_170 (by decide) ?_
  refine i_newi (kc := 6) (ks := 27700) (K := 29) C hin hcl ht0 29 rfl rfl (by decide) rfl rfl (fun _ => rfl) (fun _ => rfl) wf_X7_72 dX7_init_172 dX7_init_174 ?_
  refine x_aload_n C dX7_init_177 rfl ?_
  refine x_bipush (v := 100) C dX7_init_178 (by decide) ?_
  refine i_newi (kc := 5) (ks := 27600) (K := 30) C hin hcl ht0 30 rfl rfl (by decide) rfl rfl (fun _ => rfl) (fun _ => rfl) wf_X7_75 dX7_init_180 dX7_init_182 ?_
  refine x_aload_n C dX7_init_185 rfl ?_
  refine x_sipush (v := 1100) C dX7_init_186 (by decide) ?_
  refine i_newi (kc := 4) (ks := 26500) (K := 31) C hin hcl ht0 31 rfl rfl (by decide) rfl rfl (fun _ => rfl) (fun _ => rfl) wf_X7_78 dX7_init_189 dX7_init_191 ?_
  refine x_aload_n C dX7_init_194 rfl ?_
  refine x_bipush (v := 100) C dX7_init_195 (by decide) ?_
  refine i_newi (kc := 3) (ks := 26400) (K := 32) C hin hcl ht0 32 rfl rfl (by decide) rfl rfl (fun _ => rfl) (fun _ => rfl) wf_X7_81 dX7_init_197 dX7_init_199 ?_
  refine x_aload_n C dX7_init_202 rfl ?_
  refine x_bipush (v := 100) C dX7_init_203 (by decide) ?_
  refine i_newi (kc := 2) (ks := 26300) (K := 33) C hin hcl ht0 33 rfl rfl (by decide) rfl rfl (fun _ => rfl) (fun _ => rfl) wf_X7_84 dX7_init_205 dX7_init_207 ?_
  refine x_aload_n C dX7_init_210 rfl ?_
  refine x_sipush (v := 26000) C dX7_init_211 (by decide) ?_
  refine i_newi (kc := 1) (ks := 300) (K := 34) C hin hcl ht0 35 rfl rfl (by decide) rfl rfl (fun _ => rfl) (fun _ => rfl) wf_X7_87 dX7_init_214 dX7_init_216 ?_
  refine x_aload_n C dX7_init_219 rfl ?_
  refine x_iconst (v := (-1)) C dX7_init_220 (by decide) ?_
  refine i_place C hcl wf_X7_90 dX7_init_221 ?_
  refine x_aload_n C dX7_init_224 rfl ?_
  refine x_sipush (v := 300) C dX7_init_225 (by decide) ?_
  refine i_newi (kc := 0) (ks := 0) (K := 36) C hin hcl ht0 38 rfl rfl (by decide) rfl rfl (fun _ => rfl) (fun _ => rfl) wf_X7_94 dX7_init_228 dX7_init_230 ?_
  exact x_vret C E dX7_init_233 (fun h g => ⟨rfl, hfin h g⟩)
end Init
