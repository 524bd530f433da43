section
/-! MeterBusModel: its state as three functions of a field's number, and rows of X over it. -/
section Rows
variable {z : Fx} {own : String} {cc : ByteArray} {Ts : List Cond} {kc ks pc : Nat} {A : PH → Prop} {L : List (Option Value)} {st : List Value}
theorem x_irem (C : Cx z own cc Ts) {x y : Int32} (d : decode cc pc = .ok (.irem, 1)) (g : ¬ y = 0) (k : X z kc ks A (pc + 1) L (.int (x - x / y * y) :: st)) : X z kc ks A pc L (.int y :: .int x :: st) := by
  intro H locs ls cells slots hp hS hl c1 c2
  exact lv_irem C.x C.b d g (k H locs ls cells slots hp hS hl c1 c2)
theorem x_idiv (C : Cx z own cc Ts) {x y : Int32} (d : decode cc pc = .ok (.idiv, 1)) (g : ¬ y = 0) (k : X z kc ks A (pc + 1) L (.int (x / y) :: st)) : X z kc ks A pc L (.int y :: .int x :: st) := by
  intro H locs ls cells slots hp hS hl c1 c2
  exact lv_idiv C.x C.b d g (k H locs ls cells slots hp hS hl c1 c2)
theorem x_lcmp (C : Cx z own cc Ts) {x y : Int64} (d : decode cc pc = .ok (.lcmp, 1)) (k : X z kc ks A (pc + 1) L (.int (lg_cmp x y) :: st)) : X z kc ks A pc L (.long y :: .long x :: st) := by
  intro H locs ls cells slots hp hS hl c1 c2
  exact W.lcmp C.x C.b d (k H locs ls cells slots hp hS hl c1 c2)
end Rows
abbrev MS : Type := (Nat → Int32) × (Nat → Nat → Int32) × (Nat → Nat → Int64)
def MS.i (S : MS) (k : Nat) : Int32 := S.1 k
def MS.a (S : MS) (k j : Nat) : Int32 := S.2.1 k j
def MS.w (S : MS) (k j : Nat) : Int64 := S.2.2 k j
def MS.si (S : MS) (k : Nat) (v : Int32) : MS := (va_up S.1 k v, S.2.1, S.2.2)
def MS.sa (S : MS) (k j : Nat) (v : Int32) : MS := (S.1, va_up S.2.1 k (upd (S.2.1 k) j v), S.2.2)
def MS.sw (S : MS) (k j : Nat) (v : Int64) : MS := (S.1, S.2.1, va_up S.2.2 k (vp_updL (S.2.2 k) j v))
theorem MS.si_i (S : MS) (k : Nat) (v : Int32) (q : Nat) : (S.si k v).i q = if q = k then v else S.i q := rfl
theorem MS.si_a (S : MS) (k : Nat) (v : Int32) (q j : Nat) : (S.si k v).a q j = S.a q j := rfl
theorem MS.si_w (S : MS) (k : Nat) (v : Int32) (q j : Nat) : (S.si k v).w q j = S.w q j := rfl
theorem MS.sa_i (S : MS) (k j : Nat) (v : Int32) (q : Nat) : (S.sa k j v).i q = S.i q := rfl
theorem MS.sa_a (S : MS) (k j : Nat) (v : Int32) (q t : Nat) : (S.sa k j v).a q t = if q = k ∧ t = j then v else S.a q t := by
  by_cases h : q = k
  · subst h
    by_cases g : t = j
    · subst g; simp [MS.sa, MS.a, va_up, upd]
    · simp [MS.sa, MS.a, va_up, upd, g]
  · simp [MS.sa, MS.a, va_up, h]
theorem MS.sa_w (S : MS) (k j : Nat) (v : Int32) (q t : Nat) : (S.sa k j v).w q t = S.w q t := rfl
theorem MS.sw_i (S : MS) (k j : Nat) (v : Int64) (q : Nat) : (S.sw k j v).i q = S.i q := rfl
theorem MS.sw_a (S : MS) (k j : Nat) (v : Int64) (q t : Nat) : (S.sw k j v).a q t = S.a q t := rfl
theorem MS.sw_w (S : MS) (k j : Nat) (v : Int64) (q t : Nat) : (S.sw k j v).w q t = if q = k ∧ t = j then v else S.w q t := by
  by_cases h : q = k
  · subst h
    by_cases g : t = j
    · subst g; simp [MS.sw, MS.w, va_up, vp_updL]
    · simp [MS.sw, MS.w, va_up, vp_updL, g]
  · simp [MS.sw, MS.w, va_up, h]
/-- 0 no array, 1 ints, 2 booleans, 3 longs -/
def m_kd (k : Nat) : Nat := match k with
  | 1 => 1 | 3 => 1 | 5 => 1 | 10 => 2 | 11 => 1 | 12 => 1 | 13 => 2 | 14 => 1 | 15 => 1 | 16 => 1 | 17 => 1 | 18 => 1 | 19 => 1
  | 21 => 1 | 22 => 1 | 24 => 3 | 25 => 1 | 26 => 1 | 27 => 3 | 28 => 1 | 29 => 1 | 30 => 1 | 31 => 1 | 32 => 1 | 33 => 1 | 35 => 1 | 38 => 1 | _ => 0
def m_len (k : Nat) : Nat := match k with
  | 1 => 300 | 3 => 300 | 5 => 300 | 10 => 12 | 11 => 12 | 12 => 96 | 13 => 12 | 14 => 12 | 15 => 12 | 16 => 12 | 17 => 36 | 18 => 2160 | 19 => 8
  | 21 => 800 | 22 => 13 | 24 => 100 | 25 => 100 | 26 => 100 | 27 => 100 | 28 => 100 | 29 => 100 | 30 => 100 | 31 => 1100 | 32 => 100 | 33 => 100 | 35 => 26000 | 38 => 300 | _ => 0
/-- the array classes: 0 int[], 1 long[], 2 boolean[]; the object; where each field's array lies; all else in the heap -/
abbrev MW : Type := (Nat → ClassId) × Nat × (Nat → Nat) × PH
abbrev MW.c (M : MW) : Nat → ClassId := M.1
abbrev MW.o (M : MW) : Nat := M.2.1
abbrev MW.ad (M : MW) : Nat → Nat := M.2.2.1
abbrev MW.hf (M : MW) : PH := M.2.2.2
def m_cell (c : Nat → ClassId) (S : MS) (k : Nat) : va_E := match m_kd k with
  | 3 => .inl (c 1, m_len k, .inr (.inl (S.2.2 k)))
  | 2 => .inl (c 2, m_len k, .inl (S.2.1 k))
  | _ => .inl (c 0, m_len k, .inl (S.2.1 k))
def m_val (ad : Nat → Nat) (S : MS) (k : Nat) : Value := if m_kd k = 0 then .int (S.1 k) else .ref (ad k)
def m_fs (ad : Nat → Nat) (S : MS) : List Value := (List.range 42).map (m_val ad S)
/-- the arrays lie apart -/
def MW.ok (M : MW) : Prop := (∀ j k, m_kd j ≠ 0 → m_kd k ≠ 0 → M.ad j = M.ad k → j = k) ∧ ∀ k, m_kd k ≠ 0 → M.ad k ≠ M.o
def MA (M : MW) (S : MS) : PH → Prop := fun h => h M.o = some (.inr (7, m_fs M.ad S)) ∧ (∀ k, m_kd k ≠ 0 → h (M.ad k) = some (m_cell M.c S k)) ∧ ∀ q, q ≠ M.o → (∀ k, m_kd k ≠ 0 → q ≠ M.ad k) → h q = M.hf q
theorem m_fs_get {ad : Nat → Nat} {S : MS} {k : Nat} (h : k < 42) : (m_fs ad S)[k]? = some (m_val ad S k) := by
  simp [m_fs, h]
theorem m_fs_len (ad : Nat → Nat) (S : MS) : (m_fs ad S).length = 42 := by simp [m_fs]
theorem m_fs_set {ad : Nat → Nat} {S : MS} {k : Nat} {v : Int32} (g : m_kd k = 0) : (m_fs ad S).set k (.int v) = m_fs ad (S.si k v) := by
  apply List.ext_getElem?
  intro j
  by_cases hj : j < 42
  · by_cases e : k = j
    · subst e
      rw [List.getElem?_set_self (by rw [m_fs_len]; exact hj), m_fs_get hj]
      simp [m_val, g, MS.si, va_up]
    · rw [List.getElem?_set_ne e, m_fs_get hj, m_fs_get hj]
      simp [m_val, MS.si, va_up, Ne.symm e]
  · rw [List.getElem?_eq_none (by rw [List.length_set, m_fs_len]; omega), List.getElem?_eq_none (by rw [m_fs_len]; omega)]
theorem m_cell_si {c : Nat → ClassId} {S : MS} {k q : Nat} {v : Int32} : m_cell c (S.si k v) q = m_cell c S q := rfl
theorem m_cell_sa {c : Nat → ClassId} {S : MS} {k q j : Nat} {v : Int32} (h : q ≠ k) : m_cell c (S.sa k j v) q = m_cell c S q := by
  simp [m_cell, MS.sa, va_up, h]
theorem m_cell_sw {c : Nat → ClassId} {S : MS} {k q j : Nat} {v : Int64} (h : q ≠ k) : m_cell c (S.sw k j v) q = m_cell c S q := by
  simp [m_cell, MS.sw, va_up, h]
theorem MA.si {M : MW} {S : MS} {h : PH} {k : Nat} {v : Int32} (ok : M.ok) (hm : MA M S h) (g : m_kd k = 0) : MA M (S.si k v) (hs h M.o (.inr (7, (m_fs M.ad S).set k (.int v)))) := by
  refine ⟨by rw [hs_self, m_fs_set g], fun q hq => ?_, fun q h1 h2 => ?_⟩
  · rw [hs_ne (ok.2 q hq)]
    exact hm.2.1 q hq
  · rw [hs_ne h1]
    exact hm.2.2 q h1 h2
theorem MA.st {M : MW} {S S' : MS} {h : PH} {k : Nat} {e : va_E} (ok : M.ok) (hm : MA M S h) (g : m_kd k ≠ 0) (e0 : S'.1 = S.1) (e1 : e = m_cell M.c S' k) (e2 : ∀ q, q ≠ k → m_cell M.c S' q = m_cell M.c S q) : MA M S' (hs h (M.ad k) e) := by
  refine ⟨?_, fun q hq => ?_, fun q h1 h2 => ?_⟩
  · rw [hs_ne (Ne.symm (ok.2 k g)), hm.1]
    simp [m_fs, m_val, e0]
  · by_cases hqk : q = k
    · subst hqk
      rw [hs_self, e1]
    · rw [hs_ne (fun z => hqk (ok.1 q k hq g z)), e2 q hqk]
      exact hm.2.1 q hq
  · rw [hs_ne (h2 k g)]
    exact hm.2.2 q h1 h2
/-- the array classes of a walk -/
def Mty (z : Fx) (M : MW) : Prop := z.cl = vwCl ∧ (∃ t : Nat, z.tys[t]? = some (M.c 0, FieldType.int)) ∧ (∃ t : Nat, z.tys[t]? = some (M.c 1, FieldType.long)) ∧ ∃ t : Nat, z.tys[t]? = some (M.c 2, FieldType.boolean)
theorem Mty.kd {z : Fx} {M : MW} (Y : Mty z M) : Kd z.cl gw 7 RX7 TX7 42 tyX7 := by
  have e := Y.1
  rw [e]
  exact kd_X7
section Rows
variable {z : Fx} {cc : ByteArray} {kc ks pc : Nat} {L : List (Option Value)} {st : List Value} {M : MW} {S : MS}
theorem m_get (C : Cx z RX7 cc gw) (Y : Mty z M) (k : Nat) {index : Nat} (hk : k < 42) (g : m_kd k = 0) (w : Cond.fieldLink RX7 index (TX7 k).1 (TX7 k).2.1 (TX7 k).2.2.1 ∈ gw) (d : decode cc pc = .ok (.getfield index, 3))
    (kk : X z kc ks (MA M S) (pc + 3) L (.int (S.i k) :: st)) : X z kc ks (MA M S) pc L (.ref M.o :: st) :=
  x_get C Y.kd k hk w d (fun h hm => hm.1) (by rw [m_fs_get hk]; simp only [m_val, g, if_true]; rfl) kk
theorem m_getA (C : Cx z RX7 cc gw) (Y : Mty z M) (k : Nat) {index : Nat} (hk : k < 42) (g : m_kd k ≠ 0) (w : Cond.fieldLink RX7 index (TX7 k).1 (TX7 k).2.1 (TX7 k).2.2.1 ∈ gw) (d : decode cc pc = .ok (.getfield index, 3))
    (kk : X z kc ks (MA M S) (pc + 3) L (.ref (M.ad k) :: st)) : X z kc ks (MA M S) pc L (.ref M.o :: st) :=
  x_get C Y.kd k hk w d (fun h hm => hm.1) (by rw [m_fs_get hk]; simp only [m_val, g, if_false]) kk
theorem m_put (C : Cx z RX7 cc gw) (Y : Mty z M) (ok : M.ok) (k : Nat) {index : Nat} {v : Int32} (hk : k < 42) (g : m_kd k = 0) (hfin : (TX7 k).2.2.2 = false) (hn : narrow (tyX7 k) (.int v) = .int v) (hf : fits (tyX7 k) (.int v) = true) (w : Cond.fieldLink RX7 index (TX7 k).1 (TX7 k).2.1 (TX7 k).2.2.1 ∈ gw) (d : decode cc pc = .ok (.putfield index, 3))
    (kk : X z kc ks (MA M (S.si k v)) (pc + 3) L st) : X z kc ks (MA M S) pc L (.int v :: .ref M.o :: st) :=
  x_put C Y.kd k hk hfin w d (fun h hm => hm.1) (by rw [m_fs_len]; exact hk) hn hf (fun h hm => hm.si ok g) kk
theorem m_ild (C : Cx z RX7 cc gw) (Y : Mty z M) (k : Nat) {i : Int32} (g : m_kd k = 1) (d : decode cc pc = .ok (.iaload, 1)) (gi : vp_in i (m_len k))
    (kk : X z kc ks (MA M S) (pc + 1) L (.int (S.a k i.toNatClampNeg) :: st)) : X z kc ks (MA M S) pc L (.int i :: .ref (M.ad k) :: st) := by
  obtain ⟨t, ht⟩ := Y.2.1
  exact x_iald (f := S.2.1 k) C ht d (fun h hm => by rw [hm.2.1 k (by omega)]; simp only [m_cell, g]) gi kk
theorem m_zld (C : Cx z RX7 cc gw) (Y : Mty z M) (k : Nat) {i : Int32} (g : m_kd k = 2) (d : decode cc pc = .ok (.baload, 1)) (gi : vp_in i (m_len k))
    (kk : X z kc ks (MA M S) (pc + 1) L (.int (S.a k i.toNatClampNeg) :: st)) : X z kc ks (MA M S) pc L (.int i :: .ref (M.ad k) :: st) := by
  obtain ⟨t, ht⟩ := Y.2.2.2
  exact x_zald (f := S.2.1 k) C ht d (fun h hm => by rw [hm.2.1 k (by omega)]; simp only [m_cell, g]) gi kk
theorem m_lld (C : Cx z RX7 cc gw) (Y : Mty z M) (k : Nat) {i : Int32} (g : m_kd k = 3) (d : decode cc pc = .ok (.laload, 1)) (gi : vp_in i (m_len k))
    (kk : X z kc ks (MA M S) (pc + 1) L (.long (S.w k i.toNatClampNeg) :: st)) : X z kc ks (MA M S) pc L (.int i :: .ref (M.ad k) :: st) := by
  obtain ⟨t, ht⟩ := Y.2.2.1
  exact x_lald (f := S.2.2 k) C ht d (fun h hm => by rw [hm.2.1 k (by omega)]; simp only [m_cell, g]) gi kk
theorem m_ist (C : Cx z RX7 cc gw) (Y : Mty z M) (ok : M.ok) (k : Nat) {i x : Int32} (g : m_kd k = 1) (d : decode cc pc = .ok (.iastore, 1)) (gi : vp_in i (m_len k))
    (kk : X z kc ks (MA M (S.sa k i.toNatClampNeg x)) (pc + 1) L st) : X z kc ks (MA M S) pc L (.int x :: .int i :: .ref (M.ad k) :: st) := by
  obtain ⟨t, ht⟩ := Y.2.1
  exact x_iast (f := S.2.1 k) (B := MA M (S.sa k i.toNatClampNeg x)) C ht d (fun h hm => by rw [hm.2.1 k (by omega)]; simp only [m_cell, g]) gi (fun h hm => hm.st ok (by omega) rfl (by simp only [m_cell, g, MS.sa, va_up_self]) (fun q hq => m_cell_sa hq)) kk
theorem m_zst (C : Cx z RX7 cc gw) (Y : Mty z M) (ok : M.ok) (k : Nat) {i x : Int32} (g : m_kd k = 2) (hx : vp_nar .boolean x = x) (d : decode cc pc = .ok (.bastore, 1)) (gi : vp_in i (m_len k))
    (kk : X z kc ks (MA M (S.sa k i.toNatClampNeg x)) (pc + 1) L st) : X z kc ks (MA M S) pc L (.int x :: .int i :: .ref (M.ad k) :: st) := by
  obtain ⟨t, ht⟩ := Y.2.2.2
  exact x_zast (f := S.2.1 k) (B := MA M (S.sa k i.toNatClampNeg x)) C ht d (fun h hm => by rw [hm.2.1 k (by omega)]; simp only [m_cell, g]) gi (fun h hm => hm.st ok (by omega) rfl (by simp only [m_cell, g, MS.sa, va_up_self, hx]) (fun q hq => m_cell_sa hq)) kk
theorem m_lst (C : Cx z RX7 cc gw) (Y : Mty z M) (ok : M.ok) (k : Nat) {i : Int32} {x : Int64} (g : m_kd k = 3) (d : decode cc pc = .ok (.lastore, 1)) (gi : vp_in i (m_len k))
    (kk : X z kc ks (MA M (S.sw k i.toNatClampNeg x)) (pc + 1) L st) : X z kc ks (MA M S) pc L (.long x :: .int i :: .ref (M.ad k) :: st) := by
  obtain ⟨t, ht⟩ := Y.2.2.1
  exact x_last (f := S.2.2 k) (B := MA M (S.sw k i.toNatClampNeg x)) C ht d (fun h hm => by rw [hm.2.1 k (by omega)]; simp only [m_cell, g]) gi (fun h hm => hm.st ok (by omega) rfl (by simp only [m_cell, g, MS.sw, va_up_self]) (fun q hq => m_cell_sw hq)) kk
end Rows
def Wm (w : Wd) (M : MW) : Prop := w.ok ∧ M.ok ∧ w.cl = vwCl ∧ (∃ t : Nat, w.tys[t]? = some (M.c 0, FieldType.int)) ∧ (∃ t : Nat, w.tys[t]? = some (M.c 1, FieldType.long)) ∧ ∃ t : Nat, w.tys[t]? = some (M.c 2, FieldType.boolean)
def PM (M : MW) (post : Option Value → MS → Prop) : Option Value → PH → Prop := fun r h => ∃ S', post r S' ∧ MA M S' h
/-- a contract of a method of the model, at a level (how deep it calls) -/
def TM (w : Wd) (M : MW) (y : MethodName) (cc : ByteArray) (n : Nat) (rt : Option FieldType) (lvl : Nat) (as : List Value) (S : MS) (post : Option Value → MS → Prop) : Prop :=
  T w gw y cc n rt lvl (40 * lvl) 0 0 (.ref M.o :: as) (MA M S) (PM M post)
section Rows
variable {z : Fx} {cc : ByteArray} {kc ks pc : Nat} {L : List (Option Value)} {st : List Value} {M : MW} {S : MS} {w : Wd} {y : MethodName} {rt : Option FieldType} {lvl : Nat} {post : Option Value → MS → Prop}
theorem TM.intro {n : Nat} {as : List Value} (hW : Wm w M) (hy : y.cls = RX7) (hlen : (lg_sl (.ref M.o :: as)).length ≤ n)
    (k : ∀ z : Fx, Cx z RX7 cc gw → Mty z M → Ct z w gw y rt lvl (40 * lvl) (PM M post) → z.nL = n → X z 0 0 (MA M S) 0 (lent n (.ref M.o :: as)) []) : TM w M y cc n rt lvl as S post := by
  refine T.intro (by rw [hy]; decide +kernel) hlen (fun z C E e1 e2 e3 => ?_)
  rw [hy] at C
  refine k z C ?_ E e1
  obtain ⟨q1, q2, q3, q4, q5, -⟩ := E
  obtain ⟨r1, r2, r3, r4, r5, r6⟩ := hW
  exact ⟨by rw [q3]; exact r3, by rw [q4]; exact r4, by rw [q4]; exact r5, by rw [q4]; exact r6⟩
theorem m_iret (C : Cx z RX7 cc gw) (E : Ct z w gw y (some .int) lvl (40 * lvl) (PM M post)) (d : decode cc pc = .ok (.ireturn, 1)) {v : Int32} (g : post (some (.int v)) S) : X z kc ks (MA M S) pc L [.int v] := x_iret C E d (fun h hm => ⟨S, g, hm⟩)
theorem m_zret (C : Cx z RX7 cc gw) (E : Ct z w gw y (some .boolean) lvl (40 * lvl) (PM M post)) (d : decode cc pc = .ok (.ireturn, 1)) {v : Int32} (hn : narrow .boolean (.int v) = .int v) (g : post (some (.int v)) S) : X z kc ks (MA M S) pc L [.int v] := x_zret C E d hn (fun h hm => ⟨S, g, hm⟩)
theorem m_lret (C : Cx z RX7 cc gw) (E : Ct z w gw y (some .long) lvl (40 * lvl) (PM M post)) (d : decode cc pc = .ok (.lreturn, 1)) {v : Int64} (g : post (some (.long v)) S) : X z kc ks (MA M S) pc L [.long v] := x_lret C E d (fun h hm => ⟨S, g, hm⟩)
theorem m_vret (C : Cx z RX7 cc gw) (E : Ct z w gw y none lvl (40 * lvl) (PM M post)) (d : decode cc pc = .ok (.return_, 1)) (g : post none S) : X z kc ks (MA M S) pc L [] := x_vret C E d (fun h hm => ⟨S, g, hm⟩)
theorem m_callV (C : Cx z RX7 cc gw) (Y : Mty z M) (hW : Wm w M) (E : Ct z w gw y rt lvl (40 * lvl) (PM M post)) {y' : MethodName} {cc' : ByteArray} {n' np index lvl' : Nat} {rt' : Option FieldType} {As stk : List Value} {post' : Option Value → MS → Prop}
    (Mc : TM w M y' cc' n' rt' lvl' As S post') (hc : y'.cls = RX7) (md : Md gw y' cc' n' rt' np) (wi : Cond.instanceMethod y' ∈ gw) (wse : Cond.selects RX7 y' y' ∈ gw) (wl : Cond.methodLink RX7 index y' ∈ gw) (d : decode cc pc = .ok (.invokevirtual index, 3)) (hn : As.length = np) (hf : lvl' < lvl) (hlo : n' ≤ 21)
    (hs : stk = As.reverse ++ .ref M.o :: st) (hcat : (st.map fun v => v.category).sum ≤ 8)
    (k : ∀ r S', post' r S' → X z kc ks (MA M S') (pc + 3) L (r.toList ++ st)) : X z kc ks (MA M S) pc L stk := by
  refine x_callV (mc' := 0) (ms' := 0) C E hW.1 gw_good Mc md wi (by rw [hc]; exact wse) wl d hn (by omega) (by omega) (ci := 7) (fun h hm => hm.1) (by rw [Y.1, hc]; rfl) hs hcat (fun r => X.heap (X.ex (B := fun S' h => post' r S' ∧ MA M S' h) (fun S' => X.pure (p := post' r S') (fun h g => g.1) (fun g => X.heap (k r S' g) (fun h g2 => g2.2)))) (fun h g => g))
theorem m_callS (C : Cx z RX7 cc gw) (hW : Wm w M) (E : Ct z w gw y rt lvl (40 * lvl) (PM M post)) {y' : MethodName} {cc' : ByteArray} {n' np index lvl' : Nat} {rt' : Option FieldType} {As stk : List Value} {post' : Option Value → Prop}
    (Mc : ∀ A : PH → Prop, T w gw y' cc' n' rt' lvl' (40 * lvl') 0 0 As A (fun r h => post' r ∧ A h)) (md : Md gw y' cc' n' rt' np) (wst : Cond.static y' ∈ gw) (wl : Cond.methodLink RX7 index y' ∈ gw) (d : decode cc pc = .ok (.invokestatic index, 3)) (hn : As.length = np) (hf : lvl' < lvl) (hlo : n' ≤ 21)
    (hs : stk = As.reverse ++ st) (hcat : (st.map fun v => v.category).sum ≤ 8)
    (k : ∀ r, post' r → X z kc ks (MA M S) (pc + 3) L (r.toList ++ st)) : X z kc ks (MA M S) pc L stk := by
  refine x_callS (mc' := 0) (ms' := 0) C E hW.1 gw_good (Mc (MA M S)) md wst wl d hn (by omega) (by omega) hs hcat (fun r => X.pure (p := post' r) (fun h g => g.1) (fun g => X.heap (k r g) (fun h g2 => g2.2)))
end Rows
/-- a contract whose end is told outright -/
def TF (w : Wd) (M : MW) (y : MethodName) (cc : ByteArray) (n : Nat) (rt : Option FieldType) (lvl : Nat) (as : List Value) (S : MS) (r : Option Value) (S' : MS) : Prop := TM w M y cc n rt lvl as S (fun q Q => q = r ∧ Q = S')
section Rows
variable {z : Fx} {cc : ByteArray} {kc ks pc : Nat} {L : List (Option Value)} {st : List Value} {M : MW} {S S' : MS} {w : Wd} {y : MethodName} {rt : Option FieldType} {lvl : Nat} {post : Option Value → MS → Prop}
theorem m_callF {r : Option Value} (C : Cx z RX7 cc gw) (Y : Mty z M) (hW : Wm w M) (E : Ct z w gw y rt lvl (40 * lvl) (PM M post)) {y' : MethodName} {cc' : ByteArray} {n' np index lvl' : Nat} {rt' : Option FieldType} {As stk : List Value}
    (Mc : TF w M y' cc' n' rt' lvl' As S r S') (hc : y'.cls = RX7) (md : Md gw y' cc' n' rt' np) (wi : Cond.instanceMethod y' ∈ gw) (wse : Cond.selects RX7 y' y' ∈ gw) (wl : Cond.methodLink RX7 index y' ∈ gw) (d : decode cc pc = .ok (.invokevirtual index, 3)) (hn : As.length = np) (hf : lvl' < lvl) (hlo : n' ≤ 21)
    (hs : stk = As.reverse ++ .ref M.o :: st) (hcat : (st.map fun v => v.category).sum ≤ 8)
    (k : X z kc ks (MA M S') (pc + 3) L (r.toList ++ st)) : X z kc ks (MA M S) pc L stk :=
  m_callV C Y hW E Mc hc md wi wse wl d hn hf hlo hs hcat (fun r S' g => by obtain ⟨rfl, rfl⟩ := g; exact k)
theorem x_istoreE (C : Cx z RX7 cc gw) {A : PH → Prop} {i : Nat} {x : Int32} {L' : List (Option Value)} (d : decode cc pc = .ok (.istore i, 2)) (g : i < z.nL) (e : lst1 L i (.int x) = L')
    (k : X z kc ks A (pc + 2) L' st) : X z kc ks A pc L (.int x :: st) := by subst e; exact x_istore C d g k
theorem x_istore_nE (C : Cx z RX7 cc gw) {A : PH → Prop} {i : Fin 4} {x : Int32} {L' : List (Option Value)} (d : decode cc pc = .ok (.istore_n i, 1)) (g : (i : Nat) < z.nL) (e : lst1 L i (.int x) = L')
    (k : X z kc ks A (pc + 1) L' st) : X z kc ks A pc L (.int x :: st) := by subst e; exact x_istore_n C d g k
theorem x_lstoreE (C : Cx z RX7 cc gw) {A : PH → Prop} {i : Nat} {x : Int64} {L' : List (Option Value)} (d : decode cc pc = .ok (.lstore i, 2)) (g : i + 1 < z.nL) (e : lst2 L i (.long x) = L')
    (k : X z kc ks A (pc + 2) L' st) : X z kc ks A pc L (.long x :: st) := by subst e; exact x_lstore C d g k
theorem x_lstore_nE (C : Cx z RX7 cc gw) {A : PH → Prop} {i : Fin 4} {x : Int64} {L' : List (Option Value)} (d : decode cc pc = .ok (.lstore_n i, 1)) (g : (i : Nat) + 1 < z.nL) (e : lst2 L i (.long x) = L')
    (k : X z kc ks A (pc + 1) L' st) : X z kc ks A pc L (.long x :: st) := by subst e; exact x_lstore_n C d g k
theorem x_iincE (C : Cx z RX7 cc gw) {A : PH → Prop} {i : Nat} {n : Int} {x v : Int32} {L' : List (Option Value)} (d : decode cc pc = .ok (.iinc i n, 3)) (g : L[i]? = some (some (.int x))) (hv : x + Int32.ofInt n = v) (gn : i < z.nL) (e : lst1 L i (.int v) = L')
    (k : X z kc ks A (pc + 3) L' st) : X z kc ks A pc L st := by subst e; exact x_iinc C d g hv gn k
end Rows
/-- a static method that looks at its arguments alone -/
def TSt (w : Wd) (y : MethodName) (cc : ByteArray) (n : Nat) (rt : Option FieldType) (lvl : Nat) (as : List Value) (R : Option Value) : Prop := ∀ A : PH → Prop, T w gw y cc n rt lvl (40 * lvl) 0 0 as A (fun r h => r = R ∧ A h)
section Rows
variable {z : Fx} {cc : ByteArray} {kc ks pc : Nat} {L : List (Option Value)} {st : List Value} {M : MW} {S : MS} {w : Wd} {y : MethodName} {rt : Option FieldType} {lvl : Nat} {post : Option Value → MS → Prop}
theorem m_callSF {R : Option Value} (C : Cx z RX7 cc gw) (hW : Wm w M) (E : Ct z w gw y rt lvl (40 * lvl) (PM M post)) {y' : MethodName} {cc' : ByteArray} {n' np index lvl' : Nat} {rt' : Option FieldType} {As stk : List Value}
    (Mc : TSt w y' cc' n' rt' lvl' As R) (md : Md gw y' cc' n' rt' np) (wst : Cond.static y' ∈ gw) (wl : Cond.methodLink RX7 index y' ∈ gw) (d : decode cc pc = .ok (.invokestatic index, 3)) (hn : As.length = np) (hf : lvl' < lvl) (hlo : n' ≤ 21)
    (hs : stk = As.reverse ++ st) (hcat : (st.map fun v => v.category).sum ≤ 8)
    (k : X z kc ks (MA M S) (pc + 3) L (R.toList ++ st)) : X z kc ks (MA M S) pc L stk :=
  m_callS C hW E (post' := fun r => r = R) Mc md wst wl d hn hf hlo hs hcat (fun r g => by subst g; exact k)
theorem TSt.intro {n : Nat} {as : List Value} {R : Option Value} (hy : y.cls = RX7) (hlen : (lg_sl as).length ≤ n)
    (k : ∀ (z : Fx) (A : PH → Prop), Cx z RX7 cc gw → Ct z w gw y rt lvl (40 * lvl) (fun r h => r = R ∧ A h) → z.nL = n → X z 0 0 A 0 (lent n as) []) : TSt w y cc n rt lvl as R := by
  intro A
  refine T.intro (by rw [hy]; decide +kernel) hlen (fun z C E e1 e2 e3 => ?_)
  rw [hy] at C
  exact k z A C E e1
end Rows
def bI (p : Prop) [Decidable p] : Int32 := if p then 1 else 0
theorem bI_t {p : Prop} [Decidable p] (h : p) : bI p = 1 := if_pos h
theorem bI_f {p : Prop} [Decidable p] (h : ¬ p) : bI p = 0 := if_neg h
theorem bI_b {p : Prop} [Decidable p] : narrow .boolean (.int (bI p)) = .int (bI p) := by
  by_cases h : p
  · rw [bI_t h]; decide
  · rw [bI_f h]; decide
theorem bI_0 {p : Prop} [Decidable p] : bI p = 0 ↔ ¬ p := by
  by_cases h : p
  · rw [bI_t h]; exact ⟨fun e => absurd e (by decide), fun e => absurd h e⟩
  · rw [bI_f h]; exact ⟨fun _ => h, fun _ => rfl⟩
theorem bI_0n {p : Prop} [Decidable p] : ¬ bI p = 0 ↔ p := by rw [bI_0]; exact Decidable.not_not
end
section
/-! MeterBusModel: the small methods. -/
section Small
variable {w : Wd} {M : MW} {S : MS}
theorem s_in (v a b : Int32) : TSt w yX7_in cX7_in 3 (some .boolean) 0 [.int v, .int a, .int b] (some (.int (bI (a ≤ v ∧ v ≤ b)))) := by
  refine TSt.intro rfl (Nat.le_of_ble_eq_true rfl) (fun z A C E hn => ?_)
  refine x_iload_n C dX7_in_0 rfl ?_
  refine x_iload_n C dX7_in_1 rfl ?_
  refine x_icmp_lt (tgt := 14) C dX7_in_2 (by decide) (fun c2 => ?_) (fun c2 => ?_)
  · skip
    refine x_iconst (v := 0) C dX7_in_14 (by decide) ?_
    refine x_zret C E dX7_in_15 (by decide) (fun h g => ⟨?_, g⟩)
    first | (refine congrArg (fun t => some (Value.int t)) (Eq.symm (bI_t ?_)); simp only [Int32.le_iff_toInt_le, Int32.lt_iff_toInt_lt] at *; omega) | (refine congrArg (fun t => some (Value.int t)) (Eq.symm (bI_f ?_)); simp only [Int32.le_iff_toInt_le, Int32.lt_iff_toInt_lt] at *; omega)
  · skip
    refine x_iload_n C dX7_in_5 rfl ?_
    refine x_iload_n C dX7_in_6 rfl ?_
    refine x_icmp_gt (tgt := 14) C dX7_in_7 (by decide) (fun c7 => ?_) (fun c7 => ?_)
    · skip
      refine x_iconst (v := 0) C dX7_in_14 (by decide) ?_
      refine x_zret C E dX7_in_15 (by decide) (fun h g => ⟨?_, g⟩)
      first | (refine congrArg (fun t => some (Value.int t)) (Eq.symm (bI_t ?_)); simp only [Int32.le_iff_toInt_le, Int32.lt_iff_toInt_lt] at *; omega) | (refine congrArg (fun t => some (Value.int t)) (Eq.symm (bI_f ?_)); simp only [Int32.le_iff_toInt_le, Int32.lt_iff_toInt_lt] at *; omega)
    · skip
      refine x_iconst (v := 1) C dX7_in_10 (by decide) ?_
      refine x_goto (tgt := 15) C dX7_in_11 (by decide) ?_
      refine x_zret C E dX7_in_15 (by decide) (fun h g => ⟨?_, g⟩)
      first | (refine congrArg (fun t => some (Value.int t)) (Eq.symm (bI_t ?_)); simp only [Int32.le_iff_toInt_le, Int32.lt_iff_toInt_lt] at *; omega) | (refine congrArg (fun t => some (Value.int t)) (Eq.symm (bI_f ?_)); simp only [Int32.le_iff_toInt_le, Int32.lt_iff_toInt_lt] at *; omega)
theorem s_fails (hW : Wm w M) (p q : Prop) [Decidable p] [Decidable q] : TF w M yX7_fails cX7_fails 3 (some .boolean) 0 [.int (bI p), .int (bI q)] S (some (.int (bI (¬ (p ∧ q))))) (S.si 0 (if ¬ p then 1 else if ¬ q then 2 else 0)) := by
  refine TM.intro hW rfl (Nat.le_of_ble_eq_true rfl) (fun z C Y E hn => ?_)
  refine x_aload_n C dX7_fails_0 rfl ?_
  refine x_iload_n C dX7_fails_1 rfl ?_
  refine x_if_ne (tgt := 9) C dX7_fails_2 (by decide) (fun c2 => ?_) (fun c2 => ?_)
  · skip
    refine x_iload_n C dX7_fails_9 rfl ?_
    refine x_if_ne (tgt := 17) C dX7_fails_10 (by decide) (fun c10 => ?_) (fun c10 => ?_)
    · skip
      refine x_iconst (v := 0) C dX7_fails_17 (by decide) ?_
      refine m_put C Y hW.2.1 0 (by decide) (by decide) rfl rfl rfl wf_X7_97 dX7_fails_18 ?_
      refine x_aload_n C dX7_fails_21 rfl ?_
      refine m_get C Y 0 (by decide) (by decide) wf_X7_97 dX7_fails_22 ?_
      refine x_if_le (tgt := 32) C dX7_fails_25 (by decide) (fun c25 => ?_) (fun c25 => ?_)
      · skip
        refine x_iconst (v := 0) C dX7_fails_32 (by decide) ?_
        refine m_zret C E dX7_fails_33 (by decide) ?_
        simp_all [bI_0, bI_0n, bI, MS.si_i]
      · skip
        refine x_iconst (v := 1) C dX7_fails_28 (by decide) ?_
        refine x_goto (tgt := 33) C dX7_fails_29 (by decide) ?_
        refine m_zret C E dX7_fails_33 (by decide) ?_
        simp_all [bI_0, bI_0n, bI, MS.si_i]
    · skip
      refine x_iconst (v := 2) C dX7_fails_13 (by decide) ?_
      refine x_goto (tgt := 18) C dX7_fails_14 (by decide) ?_
      refine m_put C Y hW.2.1 0 (by decide) (by decide) rfl rfl rfl wf_X7_97 dX7_fails_18 ?_
      refine x_aload_n C dX7_fails_21 rfl ?_
      refine m_get C Y 0 (by decide) (by decide) wf_X7_97 dX7_fails_22 ?_
      refine x_if_le (tgt := 32) C dX7_fails_25 (by decide) (fun c25 => ?_) (fun c25 => ?_)
      · skip
        refine x_iconst (v := 0) C dX7_fails_32 (by decide) ?_
        refine m_zret C E dX7_fails_33 (by decide) ?_
        simp_all [bI_0, bI_0n, bI, MS.si_i]
      · skip
        refine x_iconst (v := 1) C dX7_fails_28 (by decide) ?_
        refine x_goto (tgt := 33) C dX7_fails_29 (by decide) ?_
        refine m_zret C E dX7_fails_33 (by decide) ?_
        simp_all [bI_0, bI_0n, bI, MS.si_i]
  · skip
    refine x_iconst (v := 1) C dX7_fails_5 (by decide) ?_
    refine x_goto (tgt := 18) C dX7_fails_6 (by decide) ?_
    refine m_put C Y hW.2.1 0 (by decide) (by decide) rfl rfl rfl wf_X7_97 dX7_fails_18 ?_
    refine x_aload_n C dX7_fails_21 rfl ?_
    refine m_get C Y 0 (by decide) (by decide) wf_X7_97 dX7_fails_22 ?_
    refine x_if_le (tgt := 32) C dX7_fails_25 (by decide) (fun c25 => ?_) (fun c25 => ?_)
    · skip
      refine x_iconst (v := 0) C dX7_fails_32 (by decide) ?_
      refine m_zret C E dX7_fails_33 (by decide) ?_
      simp_all [bI_0, bI_0n, bI, MS.si_i]
    · skip
      refine x_iconst (v := 1) C dX7_fails_28 (by decide) ?_
      refine x_goto (tgt := 33) C dX7_fails_29 (by decide) ?_
      refine m_zret C E dX7_fails_33 (by decide) ?_
      simp_all [bI_0, bI_0n, bI, MS.si_i]
theorem s_say (hW : Wm w M) (b : Int32) (n : Nat) (h : S.i 6 = nI n) (hl : n < 300) : TF w M yX7_say cX7_say 2 none 0 [.int b] S none ((S.sa 5 n b).si 6 (nI (n + 1))) := by
  refine TM.intro hW rfl (Nat.le_of_ble_eq_true rfl) (fun z C Y E hn => ?_)
  refine x_aload_n C dX7_say_0 rfl ?_
  refine m_getA C Y 5 (by decide) (by decide) wf_X7_16 dX7_say_1 ?_
  refine x_aload_n C dX7_say_4 rfl ?_
  refine m_get C Y 6 (by decide) (by decide) wf_X7_135 dX7_say_5 ?_
  refine x_iload_n C dX7_say_8 rfl ?_
  refine m_ist C Y hW.2.1 5 (by decide) dX7_say_9 (by rw [h]; exact vp_in_nI hl (by decide)) ?_
  refine x_aload_n C dX7_say_10 rfl ?_
  refine x_dup C dX7_say_11 rfl ?_
  refine m_get C Y 6 (by decide) (by decide) wf_X7_135 dX7_say_12 ?_
  refine x_iconst (v := 1) C dX7_say_15 (by decide) ?_
  refine x_iadd C dX7_say_16 ?_
  refine m_put C Y hW.2.1 6 (by decide) (by decide) rfl rfl rfl wf_X7_135 dX7_say_17 ?_
  refine m_vret C E dX7_say_20 ?_
  rw [h, nI_clamp (by omega)]; simp [MS.sa_i, h, nI_1]
theorem s_pagesOf (hW : Wm w M) (k : Nat) (hk : k < 12) : TF w M yX7_pagesOf cX7_pagesOf 2 (some .int) 0 [.int (nI k)] S (some (.int (if 0 < S.a 17 (3 * k + 2) then 3 else if 0 < S.a 17 (3 * k + 1) then 2 else 1))) S := by
  refine TM.intro hW rfl (Nat.le_of_ble_eq_true rfl) (fun z C Y E hn => ?_)
  have e2 : (3 : Int32) * nI k + 2 = nI (3 * k + 2) := by rw [show (3 : Int32) = nI 3 from rfl, show (2 : Int32) = nI 2 from rfl, pk_mul, nI_add]
  have e1 : (3 : Int32) * nI k + 1 = nI (3 * k + 1) := by rw [show (3 : Int32) = nI 3 from rfl, show (1 : Int32) = nI 1 from rfl, pk_mul, nI_add]
  refine x_aload_n C dX7_pagesOf_0 rfl ?_
  refine m_getA C Y 17 (by decide) (by decide) wf_X7_41 dX7_pagesOf_1 ?_
  refine x_iconst (v := 3) C dX7_pagesOf_4 (by decide) ?_
  refine x_iload_n C dX7_pagesOf_5 rfl ?_
  refine x_imul C dX7_pagesOf_6 ?_
  refine x_iconst (v := 2) C dX7_pagesOf_7 (by decide) ?_
  refine x_iadd C dX7_pagesOf_8 ?_
  refine m_ild C Y 17 (by decide) dX7_pagesOf_9 (by (first | rw [e2] | rw [e1]); exact vp_in_nI (show _ < 36 by omega) (by decide)) ?_
  rw [e2, nI_clamp (by omega)]
  refine x_if_le (tgt := 17) C dX7_pagesOf_10 (by decide) (fun c10 => ?_) (fun c10 => ?_)
  · skip
    refine x_aload_n C dX7_pagesOf_17 rfl ?_
    refine m_getA C Y 17 (by decide) (by decide) wf_X7_41 dX7_pagesOf_18 ?_
    refine x_iconst (v := 3) C dX7_pagesOf_21 (by decide) ?_
    refine x_iload_n C dX7_pagesOf_22 rfl ?_
    refine x_imul C dX7_pagesOf_23 ?_
    refine x_iconst (v := 1) C dX7_pagesOf_24 (by decide) ?_
    refine x_iadd C dX7_pagesOf_25 ?_
    refine m_ild C Y 17 (by decide) dX7_pagesOf_26 (by (first | rw [e2] | rw [e1]); exact vp_in_nI (show _ < 36 by omega) (by decide)) ?_
    rw [e1, nI_clamp (by omega)]
    refine x_if_le (tgt := 34) C dX7_pagesOf_27 (by decide) (fun c27 => ?_) (fun c27 => ?_)
    · skip
      refine x_iconst (v := 1) C dX7_pagesOf_34 (by decide) ?_
      refine m_iret C E dX7_pagesOf_35 ?_
      first | exact ⟨by rw [if_neg (Int32.not_lt.mpr c10), if_neg (Int32.not_lt.mpr c27)], rfl⟩ | exact ⟨by rw [if_neg (Int32.not_lt.mpr c10), if_pos (Int32.not_le.mp c27)], rfl⟩ | exact ⟨by rw [if_pos (Int32.not_le.mp c10)], rfl⟩
    · skip
      refine x_iconst (v := 2) C dX7_pagesOf_30 (by decide) ?_
      refine x_goto (tgt := 35) C dX7_pagesOf_31 (by decide) ?_
      refine m_iret C E dX7_pagesOf_35 ?_
      first | exact ⟨by rw [if_neg (Int32.not_lt.mpr c10), if_neg (Int32.not_lt.mpr c27)], rfl⟩ | exact ⟨by rw [if_neg (Int32.not_lt.mpr c10), if_pos (Int32.not_le.mp c27)], rfl⟩ | exact ⟨by rw [if_pos (Int32.not_le.mp c10)], rfl⟩
  · skip
    refine x_iconst (v := 3) C dX7_pagesOf_13 (by decide) ?_
    refine x_goto (tgt := 35) C dX7_pagesOf_14 (by decide) ?_
    refine m_iret C E dX7_pagesOf_35 ?_
    first | exact ⟨by rw [if_neg (Int32.not_lt.mpr c10), if_neg (Int32.not_lt.mpr c27)], rfl⟩ | exact ⟨by rw [if_neg (Int32.not_lt.mpr c10), if_pos (Int32.not_le.mp c27)], rfl⟩ | exact ⟨by rw [if_pos (Int32.not_le.mp c10)], rfl⟩
end Small
end
section
/-! MeterBusModel: rows with an index told as a number; the bus. -/
theorem nI_lit (n : Nat) : (OfNat.ofNat n : Int32) = nI n := rfl
section Rows
variable {z : Fx} {cc : ByteArray} {kc ks pc : Nat} {L : List (Option Value)} {st : List Value} {M : MW} {S : MS}
theorem m_ln {k j : Nat} (hj : j < m_len k) : j < 2 ^ 31 := by
  have : m_len k ≤ 26000 := by unfold m_len; split <;> decide
  omega
theorem m_li {k j : Nat} (hj : j < m_len k) : vp_in (nI j) (m_len k) := by
  have : m_len k ≤ 26000 := by unfold m_len; split <;> decide
  exact vp_in_nI hj (by omega)
theorem m_ildN (C : Cx z RX7 cc gw) (Y : Mty z M) (k j : Nat) {i : Int32} (g : m_kd k = 1) (d : decode cc pc = .ok (.iaload, 1)) (e : i = nI j) (hj : j < m_len k)
    (kk : X z kc ks (MA M S) (pc + 1) L (.int (S.a k j) :: st)) : X z kc ks (MA M S) pc L (.int i :: .ref (M.ad k) :: st) := by
  subst e
  exact m_ild C Y k g d (m_li hj) (by rw [nI_clamp (m_ln hj)]; exact kk)
theorem m_zldN (C : Cx z RX7 cc gw) (Y : Mty z M) (k j : Nat) {i : Int32} (g : m_kd k = 2) (d : decode cc pc = .ok (.baload, 1)) (e : i = nI j) (hj : j < m_len k)
    (kk : X z kc ks (MA M S) (pc + 1) L (.int (S.a k j) :: st)) : X z kc ks (MA M S) pc L (.int i :: .ref (M.ad k) :: st) := by
  subst e
  exact m_zld C Y k g d (m_li hj) (by rw [nI_clamp (m_ln hj)]; exact kk)
theorem m_lldN (C : Cx z RX7 cc gw) (Y : Mty z M) (k j : Nat) {i : Int32} (g : m_kd k = 3) (d : decode cc pc = .ok (.laload, 1)) (e : i = nI j) (hj : j < m_len k)
    (kk : X z kc ks (MA M S) (pc + 1) L (.long (S.w k j) :: st)) : X z kc ks (MA M S) pc L (.int i :: .ref (M.ad k) :: st) := by
  subst e
  exact m_lld C Y k g d (m_li hj) (by rw [nI_clamp (m_ln hj)]; exact kk)
theorem m_istN (C : Cx z RX7 cc gw) (Y : Mty z M) (ok : M.ok) (k j : Nat) {i x : Int32} (g : m_kd k = 1) (d : decode cc pc = .ok (.iastore, 1)) (e : i = nI j) (hj : j < m_len k)
    (kk : X z kc ks (MA M (S.sa k j x)) (pc + 1) L st) : X z kc ks (MA M S) pc L (.int x :: .int i :: .ref (M.ad k) :: st) := by
  subst e
  exact m_ist C Y ok k g d (m_li hj) (by rw [nI_clamp (m_ln hj)]; exact kk)
theorem m_zstN (C : Cx z RX7 cc gw) (Y : Mty z M) (ok : M.ok) (k j : Nat) {i x : Int32} (g : m_kd k = 2) (hx : vp_nar .boolean x = x) (d : decode cc pc = .ok (.bastore, 1)) (e : i = nI j) (hj : j < m_len k)
    (kk : X z kc ks (MA M (S.sa k j x)) (pc + 1) L st) : X z kc ks (MA M S) pc L (.int x :: .int i :: .ref (M.ad k) :: st) := by
  subst e
  exact m_zst C Y ok k g hx d (m_li hj) (by rw [nI_clamp (m_ln hj)]; exact kk)
theorem m_lstN (C : Cx z RX7 cc gw) (Y : Mty z M) (ok : M.ok) (k j : Nat) {i : Int32} {x : Int64} (g : m_kd k = 3) (d : decode cc pc = .ok (.lastore, 1)) (e : i = nI j) (hj : j < m_len k)
    (kk : X z kc ks (MA M (S.sw k j x)) (pc + 1) L st) : X z kc ks (MA M S) pc L (.long x :: .int i :: .ref (M.ad k) :: st) := by
  subst e
  exact m_lst C Y ok k g d (m_li hj) (by rw [nI_clamp (m_ln hj)]; exact kk)
end Rows
theorem bI_vt {p : Prop} [Decidable p] (h : p) : some (Value.int 1) = some (Value.int (bI p)) := by rw [bI_t h]
theorem bI_vf {p : Prop} [Decidable p] (h : ¬ p) : some (Value.int 0) = some (Value.int (bI p)) := by rw [bI_f h]
theorem bI_nar {p : Prop} [Decidable p] : vp_nar .boolean (bI p) = bI p := by
  by_cases h : p
  · rw [bI_t h]; rfl
  · rw [bI_f h]; rfl
theorem bI_1 {p : Prop} [Decidable p] (h : p) : (1 : Int32) = bI p := (bI_t h).symm
theorem bI_00 {p : Prop} [Decidable p] (h : ¬ p) : (0 : Int32) = bI p := (bI_f h).symm
def f_ack (S : MS) : MS := ((S.si 7 (S.i 7 + 1)).sa 5 0 229).si 6 1
def f_forget (S : MS) (k : Nat) : MS := (S.sa 15 k (-1)).sa 14 k (-1)
/-- byte b of the mask in the frame fits meter k's -/
def f_fit (S : MS) (k b : Nat) : Bool := if b < 4 then (decide (S.a 3 (7 + b) &&& 15 = 15) || decide (S.a 3 (7 + b) &&& 15 = S.a 12 (8 * k + b) &&& 15)) && (decide (S.a 3 (7 + b) >>> ((4 : Int32) &&& 31) = 15) || decide (S.a 3 (7 + b) >>> ((4 : Int32) &&& 31) = S.a 12 (8 * k + b) >>> ((4 : Int32) &&& 31))) else (decide (S.a 3 (7 + b) = 255) || decide (S.a 3 (7 + b) = S.a 12 (8 * k + b)))
theorem f_fit_lo {S : MS} {k b : Nat} (h : b < 4) : f_fit S k b = true ↔ (S.a 3 (7 + b) &&& 15 = 15 ∨ S.a 3 (7 + b) &&& 15 = S.a 12 (8 * k + b) &&& 15) ∧ (S.a 3 (7 + b) >>> ((4 : Int32) &&& 31) = 15 ∨ S.a 3 (7 + b) >>> ((4 : Int32) &&& 31) = S.a 12 (8 * k + b) >>> ((4 : Int32) &&& 31)) := by
  unfold f_fit
  rw [if_pos h]
  simp only [Bool.and_eq_true, Bool.or_eq_true, decide_eq_true_eq]
theorem f_fit_hi {S : MS} {k b : Nat} (h : ¬ b < 4) : f_fit S k b = true ↔ (S.a 3 (7 + b) = 255 ∨ S.a 3 (7 + b) = S.a 12 (8 * k + b)) := by
  unfold f_fit
  rw [if_neg h]
  simp only [Bool.or_eq_true, decide_eq_true_eq]
def f_all (S : MS) (k n : Nat) : Bool := (List.range n).all (f_fit S k)
theorem f_all_s {S : MS} {k n : Nat} : f_all S k (n + 1) = true ↔ f_all S k n = true ∧ f_fit S k n = true := by
  simp [f_all, List.range_succ]
def f_sel (S : MS) (k : Nat) : MS := if f_all S k 8 = true then f_ack (S.sa 13 k 1) else S.sa 13 k 0
def f_long (S : MS) (k : Nat) : MS := if S.a 3 6 = 80 ∧ S.a 3 1 = 3 then f_ack (f_forget S k) else if S.a 3 6 = 81 ∧ S.a 3 1 = 6 ∧ S.a 3 7 = 1 ∧ S.a 3 8 = 122 ∧ S.a 3 9 ≤ 250 then f_ack (S.sa 11 k (S.a 3 9)) else S
section Small
variable {w : Wd} {M : MW} {S : MS}
theorem s_ack (hW : Wm w M) : TF w M yX7_acknowledge cX7_acknowledge 1 none 0 [] S none (f_ack S) := by
  refine TM.intro hW rfl (Nat.le_of_ble_eq_true rfl) (fun z C Y E hn => ?_)
  refine x_aload_n C dX7_acknowledge_0 rfl ?_
  refine x_dup C dX7_acknowledge_1 rfl ?_
  refine m_get C Y 7 (by decide) (by decide) wf_X7_132 dX7_acknowledge_2 ?_
  refine x_iconst (v := 1) C dX7_acknowledge_5 (by decide) ?_
  refine x_iadd C dX7_acknowledge_6 ?_
  refine m_put C Y hW.2.1 7 (by decide) (by decide) rfl rfl rfl wf_X7_132 dX7_acknowledge_7 ?_
  refine x_aload_n C dX7_acknowledge_10 rfl ?_
  refine m_getA C Y 5 (by decide) (by decide) wf_X7_16 dX7_acknowledge_11 ?_
  refine x_iconst (v := 0) C dX7_acknowledge_14 (by decide) ?_
  refine x_sipush (v := 229) C dX7_acknowledge_15 (by decide) ?_
  refine m_istN C Y hW.2.1 5 (0) (by decide) dX7_acknowledge_18 (by simp only [nI_lit, nI_add, pk_mul]) (by simp only [m_len]; omega) ?_
  refine x_aload_n C dX7_acknowledge_19 rfl ?_
  refine x_iconst (v := 1) C dX7_acknowledge_20 (by decide) ?_
  refine m_put C Y hW.2.1 6 (by decide) (by decide) rfl rfl rfl wf_X7_135 dX7_acknowledge_21 ?_
  refine m_vret C E dX7_acknowledge_24 ?_
  exact ⟨rfl, rfl⟩
theorem s_forget (hW : Wm w M) (k : Nat) (hk : k < 12) : TF w M yX7_forget cX7_forget 2 none 0 [.int (nI k)] S none (f_forget S k) := by
  refine TM.intro hW rfl (Nat.le_of_ble_eq_true rfl) (fun z C Y E hn => ?_)
  refine x_aload_n C dX7_forget_0 rfl ?_
  refine m_getA C Y 15 (by decide) (by decide) wf_X7_35 dX7_forget_1 ?_
  refine x_iload_n C dX7_forget_4 rfl ?_
  refine x_iconst (v := (-1)) C dX7_forget_5 (by decide) ?_
  refine m_istN C Y hW.2.1 15 (k) (by decide) dX7_forget_6 (by simp only [nI_lit, nI_add, pk_mul]) (by simp only [m_len]; omega) ?_
  refine x_aload_n C dX7_forget_7 rfl ?_
  refine m_getA C Y 14 (by decide) (by decide) wf_X7_32 dX7_forget_8 ?_
  refine x_iload_n C dX7_forget_11 rfl ?_
  refine x_iconst (v := (-1)) C dX7_forget_12 (by decide) ?_
  refine m_istN C Y hW.2.1 14 (k) (by decide) dX7_forget_13 (by simp only [nI_lit, nI_add, pk_mul]) (by simp only [m_len]; omega) ?_
  refine m_vret C E dX7_forget_14 ?_
  exact ⟨rfl, rfl⟩
theorem s_isMeter (hW : Wm w M) (k : Int32) : TF w M yX7_isMeter cX7_isMeter 2 (some .boolean) 1 [.int k] S (some (.int (bI ((0 ≤ k ∧ k ≤ 11) ∧ ¬ S.a 10 k.toNatClampNeg = 0)))) S := by
  refine TM.intro hW rfl (Nat.le_of_ble_eq_true rfl) (fun z C Y E hn => ?_)
  refine x_iload_n C dX7_isMeter_0 rfl ?_
  refine x_iconst (v := 0) C dX7_isMeter_1 (by decide) ?_
  refine x_bipush (v := 11) C dX7_isMeter_2 (by decide) ?_
  refine m_callSF C hW E (s_in _ _ _) md_X7_in wt_X7_in wm_X7_100 dX7_isMeter_4 rfl (by decide) (by decide) rfl (by simp [Value.category]) ?_
  refine x_if_eq (tgt := 23) C dX7_isMeter_7 (by decide) (fun c7 => ?_) (fun c7 => ?_)
  · skip
    refine x_iconst (v := 0) C dX7_isMeter_23 (by decide) ?_
    refine m_zret C E dX7_isMeter_24 (by decide) ?_
    first | exact ⟨bI_vf (fun g => bI_0.mp c7 g.1), rfl⟩ | exact ⟨bI_vf (fun g => g.2 c16), rfl⟩ | exact ⟨bI_vt ⟨bI_0n.mp c7, c16⟩, rfl⟩
  · skip
    refine x_aload_n C dX7_isMeter_10 rfl ?_
    refine m_getA C Y 10 (by decide) (by decide) wf_X7_19 dX7_isMeter_11 ?_
    refine x_iload_n C dX7_isMeter_14 rfl ?_
    refine m_zld C Y 10 (by decide) dX7_isMeter_15 (by have := bI_0n.mp c7; exact vp_in_iff.mpr (by simp only [Int32.le_iff_toInt_le] at this; exact ⟨this.1, Int.lt_of_le_of_lt this.2 (by decide)⟩)) ?_
    refine x_if_eq (tgt := 23) C dX7_isMeter_16 (by decide) (fun c16 => ?_) (fun c16 => ?_)
    · skip
      refine x_iconst (v := 0) C dX7_isMeter_23 (by decide) ?_
      refine m_zret C E dX7_isMeter_24 (by decide) ?_
      first | exact ⟨bI_vf (fun g => bI_0.mp c7 g.1), rfl⟩ | exact ⟨bI_vf (fun g => g.2 c16), rfl⟩ | exact ⟨bI_vt ⟨bI_0n.mp c7, c16⟩, rfl⟩
    · skip
      refine x_iconst (v := 1) C dX7_isMeter_19 (by decide) ?_
      refine x_goto (tgt := 24) C dX7_isMeter_20 (by decide) ?_
      refine m_zret C E dX7_isMeter_24 (by decide) ?_
      first | exact ⟨bI_vf (fun g => bI_0.mp c7 g.1), rfl⟩ | exact ⟨bI_vf (fun g => g.2 c16), rfl⟩ | exact ⟨bI_vt ⟨bI_0n.mp c7, c16⟩, rfl⟩
/-- select(k)'s loop -/
theorem s_sel_loop (hW : Wm w M) {k : Nat} (hk : k < 12) {post : Option Value → MS → Prop} {z : Fx} (C : Cx z RX7 cX7_select gw) (Y : Mty z M) (E : Ct z w gw yX7_select none 1 (40 * 1) (PM M post)) (hn : z.nL = 6)
    (kk : ∀ l4 l5 : Option Value, X z 0 0 (MA M S) 126 [some (.ref M.o), some (.int (nI k)), some (.int (bI (f_all S k 8 = true))), some (.int (nI 8)), l4, l5] []) :
    ∀ (n b : Nat) (v : Int32) (l4 l5 : Option Value), b + n = 8 → v = bI (f_all S k b = true) → X z 0 0 (MA M S) 4 [some (.ref M.o), some (.int (nI k)), some (.int v), some (.int (nI b)), l4, l5] [] := by
  intro n
  induction n with
  | zero =>
    intro b v l4 l5 hb hv
    obtain rfl : b = 8 := by omega
    subst hv
    refine x_iload_n C dX7_select_4 rfl ?_
    refine x_bipush (v := 8) C dX7_select_5 (by decide) ?_
    refine x_icmp_ge (tgt := 126) C dX7_select_7 (by decide) (fun c7 => ?_) (fun c7 => absurd c7 (by decide))
    exact kk l4 l5
  | succ n ih =>
    intro b v l4 l5 hb hv
    refine x_iload_n C dX7_select_4 rfl ?_
    refine x_bipush (v := 8) C dX7_select_5 (by decide) ?_
    refine x_icmp_ge (tgt := 126) C dX7_select_7 (by decide) (fun c7 => absurd c7 (by rw [nI_lit]; exact nI_ge (show b < 8 by omega) (by decide))) (fun c7 => ?_)
    refine x_aload_n C dX7_select_10 rfl ?_
    refine m_getA C Y 3 (by decide) (by decide) wf_X7_13 dX7_select_11 ?_
    refine x_bipush (v := 7) C dX7_select_14 (by decide) ?_
    refine x_iload_n C dX7_select_16 rfl ?_
    refine x_iadd C dX7_select_17 ?_
    refine m_ildN C Y 3 (7 + b) (by decide) dX7_select_18 (by simp only [nI_lit, nI_add, pk_mul]) (by simp only [m_len]; omega) ?_
    refine x_istoreE (L' := [some _, some _, some _, some _, some _, _]) C dX7_select_19 (by rw [hn]; decide) rfl ?_
    refine x_aload_n C dX7_select_21 rfl ?_
    refine m_getA C Y 12 (by decide) (by decide) wf_X7_26 dX7_select_22 ?_
    refine x_bipush (v := 8) C dX7_select_25 (by decide) ?_
    refine x_iload_n C dX7_select_27 rfl ?_
    refine x_imul C dX7_select_28 ?_
    refine x_iload_n C dX7_select_29 rfl ?_
    refine x_iadd C dX7_select_30 ?_
    refine m_ildN C Y 12 (8 * k + b) (by decide) dX7_select_31 (by simp only [nI_lit, nI_add, pk_mul]) (by simp only [m_len]; omega) ?_
    refine x_istoreE (L' := [some _, some _, some _, some _, some _, some _]) C dX7_select_32 (by rw [hn]; decide) rfl ?_
    refine x_iload_n C dX7_select_34 rfl ?_
    refine x_iconst (v := 4) C dX7_select_35 (by decide) ?_
    refine x_icmp_ge (tgt := 95) C dX7_select_36 (by decide) (fun c36 => ?_) (fun c36 => ?_)
    · skip
      have hb4 : ¬ b < 4 := fun q => nI_ge q (by decide) c36; have hff := f_fit_hi (S := S) (k := k) hb4
      refine x_iload_n C dX7_select_95 rfl ?_
      refine x_if_eq (tgt := 118) C dX7_select_96 (by decide) (fun c96 => ?_) (fun c96 => ?_)
      · skip
        refine x_iconst (v := 0) C dX7_select_118 (by decide) ?_
        refine x_istore_nE (L' := [some _, some _, some _, some _, some _, some _]) C dX7_select_119 (by rw [hn]; decide) rfl ?_
        refine x_iincE (v := nI (b + 1)) (L' := [some _, some _, some _, some _, some _, some _]) C dX7_select_120 rfl (nI_1 b) (by rw [hn]; decide) rfl ?_
        refine x_goto (tgt := 4) C dX7_select_123 (by decide) ?_
        refine ih (b + 1) _ _ _ (by omega) ?_; clear ih kk C Y E; subst hv; simp only [bI_0, Classical.not_not] at *; first | (refine bI_1 (p := f_all S k (b + 1) = true) (f_all_s.mpr ⟨by assumption, hff.mpr ?_⟩); grind) | (refine bI_00 (p := f_all S k (b + 1) = true) (fun g => ?_); have g := f_all_s.mp g; rw [hff] at g; grind)
      · skip
        refine x_iload C dX7_select_99 rfl ?_
        refine x_sipush (v := 255) C dX7_select_101 (by decide) ?_
        refine x_icmp_eq (tgt := 114) C dX7_select_104 (by decide) (fun c104 => ?_) (fun c104 => ?_)
        · skip
          refine x_iconst (v := 1) C dX7_select_114 (by decide) ?_
          refine x_goto (tgt := 119) C dX7_select_115 (by decide) ?_
          refine x_istore_nE (L' := [some _, some _, some _, some _, some _, some _]) C dX7_select_119 (by rw [hn]; decide) rfl ?_
          refine x_iincE (v := nI (b + 1)) (L' := [some _, some _, some _, some _, some _, some _]) C dX7_select_120 rfl (nI_1 b) (by rw [hn]; decide) rfl ?_
          refine x_goto (tgt := 4) C dX7_select_123 (by decide) ?_
          refine ih (b + 1) _ _ _ (by omega) ?_; clear ih kk C Y E; subst hv; simp only [bI_0, Classical.not_not] at *; first | (refine bI_1 (p := f_all S k (b + 1) = true) (f_all_s.mpr ⟨by assumption, hff.mpr ?_⟩); grind) | (refine bI_00 (p := f_all S k (b + 1) = true) (fun g => ?_); have g := f_all_s.mp g; rw [hff] at g; grind)
        · skip
          refine x_iload C dX7_select_107 rfl ?_
          refine x_iload C dX7_select_109 rfl ?_
          refine x_icmp_ne (tgt := 118) C dX7_select_111 (by decide) (fun c111 => ?_) (fun c111 => ?_)
          · skip
            refine x_iconst (v := 0) C dX7_select_118 (by decide) ?_
            refine x_istore_nE (L' := [some _, some _, some _, some _, some _, some _]) C dX7_select_119 (by rw [hn]; decide) rfl ?_
            refine x_iincE (v := nI (b + 1)) (L' := [some _, some _, some _, some _, some _, some _]) C dX7_select_120 rfl (nI_1 b) (by rw [hn]; decide) rfl ?_
            refine x_goto (tgt := 4) C dX7_select_123 (by decide) ?_
            refine ih (b + 1) _ _ _ (by omega) ?_; clear ih kk C Y E; subst hv; simp only [bI_0, Classical.not_not] at *; first | (refine bI_1 (p := f_all S k (b + 1) = true) (f_all_s.mpr ⟨by assumption, hff.mpr ?_⟩); grind) | (refine bI_00 (p := f_all S k (b + 1) = true) (fun g => ?_); have g := f_all_s.mp g; rw [hff] at g; grind)
          · skip
            refine x_iconst (v := 1) C dX7_select_114 (by decide) ?_
            refine x_goto (tgt := 119) C dX7_select_115 (by decide) ?_
            refine x_istore_nE (L' := [some _, some _, some _, some _, some _, some _]) C dX7_select_119 (by rw [hn]; decide) rfl ?_
            refine x_iincE (v := nI (b + 1)) (L' := [some _, some _, some _, some _, some _, some _]) C dX7_select_120 rfl (nI_1 b) (by rw [hn]; decide) rfl ?_
            refine x_goto (tgt := 4) C dX7_select_123 (by decide) ?_
            refine ih (b + 1) _ _ _ (by omega) ?_; clear ih kk C Y E; subst hv; simp only [bI_0, Classical.not_not] at *; first | (refine bI_1 (p := f_all S k (b + 1) = true) (f_all_s.mpr ⟨by assumption, hff.mpr ?_⟩); grind) | (refine bI_00 (p := f_all S k (b + 1) = true) (fun g => ?_); have g := f_all_s.mp g; rw [hff] at g; grind)
    · skip
      have hb4 : b < 4 := (by rcases Nat.lt_or_ge b 4 with q | q; exact q; exact absurd (nI_le q (by omega)) c36); have hff := f_fit_lo (S := S) (k := k) hb4
      refine x_iload_n C dX7_select_39 rfl ?_
      refine x_if_eq (tgt := 90) C dX7_select_40 (by decide) (fun c40 => ?_) (fun c40 => ?_)
      · skip
        refine x_iconst (v := 0) C dX7_select_90 (by decide) ?_
        refine x_istore_nE (L' := [some _, some _, some _, some _, some _, some _]) C dX7_select_91 (by rw [hn]; decide) rfl ?_
        refine x_goto (tgt := 120) C dX7_select_92 (by decide) ?_
        refine x_iincE (v := nI (b + 1)) (L' := [some _, some _, some _, some _, some _, some _]) C dX7_select_120 rfl (nI_1 b) (by rw [hn]; decide) rfl ?_
        refine x_goto (tgt := 4) C dX7_select_123 (by decide) ?_
        refine ih (b + 1) _ _ _ (by omega) ?_; clear ih kk C Y E; subst hv; simp only [bI_0, Classical.not_not] at *; first | (refine bI_1 (p := f_all S k (b + 1) = true) (f_all_s.mpr ⟨by assumption, hff.mpr ?_⟩); grind) | (refine bI_00 (p := f_all S k (b + 1) = true) (fun g => ?_); have g := f_all_s.mp g; rw [hff] at g; grind)
      · skip
        refine x_iload C dX7_select_43 rfl ?_
        refine x_bipush (v := 15) C dX7_select_45 (by decide) ?_
        refine x_iand C dX7_select_47 ?_
        refine x_bipush (v := 15) C dX7_select_48 (by decide) ?_
        refine x_icmp_eq (tgt := 66) C dX7_select_50 (by decide) (fun c50 => ?_) (fun c50 => ?_)
        · skip
          refine x_iload C dX7_select_66 rfl ?_
          refine x_iconst (v := 4) C dX7_select_68 (by decide) ?_
          refine x_ishr C dX7_select_69 ?_
          refine x_bipush (v := 15) C dX7_select_70 (by decide) ?_
          refine x_icmp_eq (tgt := 86) C dX7_select_72 (by decide) (fun c72 => ?_) (fun c72 => ?_)
          · skip
            refine x_iconst (v := 1) C dX7_select_86 (by decide) ?_
            refine x_goto (tgt := 91) C dX7_select_87 (by decide) ?_
            refine x_istore_nE (L' := [some _, some _, some _, some _, some _, some _]) C dX7_select_91 (by rw [hn]; decide) rfl ?_
            refine x_goto (tgt := 120) C dX7_select_92 (by decide) ?_
            refine x_iincE (v := nI (b + 1)) (L' := [some _, some _, some _, some _, some _, some _]) C dX7_select_120 rfl (nI_1 b) (by rw [hn]; decide) rfl ?_
            refine x_goto (tgt := 4) C dX7_select_123 (by decide) ?_
            refine ih (b + 1) _ _ _ (by omega) ?_; clear ih kk C Y E; subst hv; simp only [bI_0, Classical.not_not] at *; first | (refine bI_1 (p := f_all S k (b + 1) = true) (f_all_s.mpr ⟨by assumption, hff.mpr ?_⟩); grind) | (refine bI_00 (p := f_all S k (b + 1) = true) (fun g => ?_); have g := f_all_s.mp g; rw [hff] at g; grind)
          · skip
            refine x_iload C dX7_select_75 rfl ?_
            refine x_iconst (v := 4) C dX7_select_77 (by decide) ?_
            refine x_ishr C dX7_select_78 ?_
            refine x_iload C dX7_select_79 rfl ?_
            refine x_iconst (v := 4) C dX7_select_81 (by decide) ?_
            refine x_ishr C dX7_select_82 ?_
            refine x_icmp_ne (tgt := 90) C dX7_select_83 (by decide) (fun c83 => ?_) (fun c83 => ?_)
            · skip
              refine x_iconst (v := 0) C dX7_select_90 (by decide) ?_
              refine x_istore_nE (L' := [some _, some _, some _, some _, some _, some _]) C dX7_select_91 (by rw [hn]; decide) rfl ?_
              refine x_goto (tgt := 120) C dX7_select_92 (by decide) ?_
              refine x_iincE (v := nI (b + 1)) (L' := [some _, some _, some _, some _, some _, some _]) C dX7_select_120 rfl (nI_1 b) (by rw [hn]; decide) rfl ?_
              refine x_goto (tgt := 4) C dX7_select_123 (by decide) ?_
              refine ih (b + 1) _ _ _ (by omega) ?_; clear ih kk C Y E; subst hv; simp only [bI_0, Classical.not_not] at *; first | (refine bI_1 (p := f_all S k (b + 1) = true) (f_all_s.mpr ⟨by assumption, hff.mpr ?_⟩); grind) | (refine bI_00 (p := f_all S k (b + 1) = true) (fun g => ?_); have g := f_all_s.mp g; rw [hff] at g; grind)
            · skip
              refine x_iconst (v := 1) C dX7_select_86 (by decide) ?_
              refine x_goto (tgt := 91) C dX7_select_87 (by decide) ?_
              refine x_istore_nE (L' := [some _, some _, some _, some _, some _, some _]) C dX7_select_91 (by rw [hn]; decide) rfl ?_
              refine x_goto (tgt := 120) C dX7_select_92 (by decide) ?_
              refine x_iincE (v := nI (b + 1)) (L' := [some _, some _, some _, some _, some _, some _]) C dX7_select_120 rfl (nI_1 b) (by rw [hn]; decide) rfl ?_
              refine x_goto (tgt := 4) C dX7_select_123 (by decide) ?_
              refine ih (b + 1) _ _ _ (by omega) ?_; clear ih kk C Y E; subst hv; simp only [bI_0, Classical.not_not] at *; first | (refine bI_1 (p := f_all S k (b + 1) = true) (f_all_s.mpr ⟨by assumption, hff.mpr ?_⟩); grind) | (refine bI_00 (p := f_all S k (b + 1) = true) (fun g => ?_); have g := f_all_s.mp g; rw [hff] at g; grind)
        · skip
          refine x_iload C dX7_select_53 rfl ?_
          refine x_bipush (v := 15) C dX7_select_55 (by decide) ?_
          refine x_iand C dX7_select_57 ?_
          refine x_iload C dX7_select_58 rfl ?_
          refine x_bipush (v := 15) C dX7_select_60 (by decide) ?_
          refine x_iand C dX7_select_62 ?_
          refine x_icmp_ne (tgt := 90) C dX7_select_63 (by decide) (fun c63 => ?_) (fun c63 => ?_)
          · skip
            refine x_iconst (v := 0) C dX7_select_90 (by decide) ?_
            refine x_istore_nE (L' := [some _, some _, some _, some _, some _, some _]) C dX7_select_91 (by rw [hn]; decide) rfl ?_
            refine x_goto (tgt := 120) C dX7_select_92 (by decide) ?_
            refine x_iincE (v := nI (b + 1)) (L' := [some _, some _, some _, some _, some _, some _]) C dX7_select_120 rfl (nI_1 b) (by rw [hn]; decide) rfl ?_
            refine x_goto (tgt := 4) C dX7_select_123 (by decide) ?_
            refine ih (b + 1) _ _ _ (by omega) ?_; clear ih kk C Y E; subst hv; simp only [bI_0, Classical.not_not] at *; first | (refine bI_1 (p := f_all S k (b + 1) = true) (f_all_s.mpr ⟨by assumption, hff.mpr ?_⟩); grind) | (refine bI_00 (p := f_all S k (b + 1) = true) (fun g => ?_); have g := f_all_s.mp g; rw [hff] at g; grind)
          · skip
            refine x_iload C dX7_select_66 rfl ?_
            refine x_iconst (v := 4) C dX7_select_68 (by decide) ?_
            refine x_ishr C dX7_select_69 ?_
            refine x_bipush (v := 15) C dX7_select_70 (by decide) ?_
            refine x_icmp_eq (tgt := 86) C dX7_select_72 (by decide) (fun c72 => ?_) (fun c72 => ?_)
            · skip
              refine x_iconst (v := 1) C dX7_select_86 (by decide) ?_
              refine x_goto (tgt := 91) C dX7_select_87 (by decide) ?_
              refine x_istore_nE (L' := [some _, some _, some _, some _, some _, some _]) C dX7_select_91 (by rw [hn]; decide) rfl ?_
              refine x_goto (tgt := 120) C dX7_select_92 (by decide) ?_
              refine x_iincE (v := nI (b + 1)) (L' := [some _, some _, some _, some _, some _, some _]) C dX7_select_120 rfl (nI_1 b) (by rw [hn]; decide) rfl ?_
              refine x_goto (tgt := 4) C dX7_select_123 (by decide) ?_
              refine ih (b + 1) _ _ _ (by omega) ?_; clear ih kk C Y E; subst hv; simp only [bI_0, Classical.not_not] at *; first | (refine bI_1 (p := f_all S k (b + 1) = true) (f_all_s.mpr ⟨by assumption, hff.mpr ?_⟩); grind) | (refine bI_00 (p := f_all S k (b + 1) = true) (fun g => ?_); have g := f_all_s.mp g; rw [hff] at g; grind)
            · skip
              refine x_iload C dX7_select_75 rfl ?_
              refine x_iconst (v := 4) C dX7_select_77 (by decide) ?_
              refine x_ishr C dX7_select_78 ?_
              refine x_iload C dX7_select_79 rfl ?_
              refine x_iconst (v := 4) C dX7_select_81 (by decide) ?_
              refine x_ishr C dX7_select_82 ?_
              refine x_icmp_ne (tgt := 90) C dX7_select_83 (by decide) (fun c83 => ?_) (fun c83 => ?_)
              · skip
                refine x_iconst (v := 0) C dX7_select_90 (by decide) ?_
                refine x_istore_nE (L' := [some _, some _, some _, some _, some _, some _]) C dX7_select_91 (by rw [hn]; decide) rfl ?_
                refine x_goto (tgt := 120) C dX7_select_92 (by decide) ?_
                refine x_iincE (v := nI (b + 1)) (L' := [some _, some _, some _, some _, some _, some _]) C dX7_select_120 rfl (nI_1 b) (by rw [hn]; decide) rfl ?_
                refine x_goto (tgt := 4) C dX7_select_123 (by decide) ?_
                refine ih (b + 1) _ _ _ (by omega) ?_; clear ih kk C Y E; subst hv; simp only [bI_0, Classical.not_not] at *; first | (refine bI_1 (p := f_all S k (b + 1) = true) (f_all_s.mpr ⟨by assumption, hff.mpr ?_⟩); grind) | (refine bI_00 (p := f_all S k (b + 1) = true) (fun g => ?_); have g := f_all_s.mp g; rw [hff] at g; grind)
              · skip
                refine x_iconst (v := 1) C dX7_select_86 (by decide) ?_
                refine x_goto (tgt := 91) C dX7_select_87 (by decide) ?_
                refine x_istore_nE (L' := [some _, some _, some _, some _, some _, some _]) C dX7_select_91 (by rw [hn]; decide) rfl ?_
                refine x_goto (tgt := 120) C dX7_select_92 (by decide) ?_
                refine x_iincE (v := nI (b + 1)) (L' := [some _, some _, some _, some _, some _, some _]) C dX7_select_120 rfl (nI_1 b) (by rw [hn]; decide) rfl ?_
                refine x_goto (tgt := 4) C dX7_select_123 (by decide) ?_
                refine ih (b + 1) _ _ _ (by omega) ?_; clear ih kk C Y E; subst hv; simp only [bI_0, Classical.not_not] at *; first | (refine bI_1 (p := f_all S k (b + 1) = true) (f_all_s.mpr ⟨by assumption, hff.mpr ?_⟩); grind) | (refine bI_00 (p := f_all S k (b + 1) = true) (fun g => ?_); have g := f_all_s.mp g; rw [hff] at g; grind)
theorem s_select (hW : Wm w M) (k : Nat) (hk : k < 12) : TF w M yX7_select cX7_select 6 none 1 [.int (nI k)] S none (f_sel S k) := by
  refine TM.intro hW rfl (Nat.le_of_ble_eq_true rfl) (fun z C Y E hn => ?_)
  refine x_iconst (v := 1) C dX7_select_0 (by decide) ?_
  refine x_istore_nE (L' := [some _, some _, some _, none, none, none]) C dX7_select_1 (by rw [hn]; decide) rfl ?_
  refine x_iconst (v := 0) C dX7_select_2 (by decide) ?_
  refine x_istore_nE (L' := [some _, some _, some _, some _, none, none]) C dX7_select_3 (by rw [hn]; decide) rfl ?_
  refine s_sel_loop hW hk C Y E hn (fun l4 l5 => ?_) 8 0 1 none none rfl (bI_1 (p := f_all S k 0 = true) rfl)
  refine x_aload_n C dX7_select_126 rfl ?_
  refine m_getA C Y 13 (by decide) (by decide) wf_X7_29 dX7_select_127 ?_
  refine x_iload_n C dX7_select_130 rfl ?_
  refine x_iload_n C dX7_select_131 rfl ?_
  refine m_zstN C Y hW.2.1 13 (k) (by decide) bI_nar dX7_select_132 (by simp only [nI_lit, nI_add, pk_mul]) (by simp only [m_len]; omega) ?_
  refine x_iload_n C dX7_select_133 rfl ?_
  refine x_if_eq (tgt := 141) C dX7_select_134 (by decide) (fun c134 => ?_) (fun c134 => ?_)
  · skip
    refine m_vret C E dX7_select_141 ?_
    (first | exact ⟨rfl, by unfold f_sel; rw [if_neg (bI_0.mp c134), bI_f (bI_0.mp c134)]⟩ | exact ⟨rfl, by unfold f_sel; rw [if_pos (bI_0n.mp c134), bI_t (bI_0n.mp c134)]⟩)
  · skip
    refine x_aload_n C dX7_select_137 rfl ?_
    refine m_callF C Y hW E (s_ack hW) rfl md_X7_acknowledge wi_X7_acknowledge ws_X7_acknowledge wm_X7_159 dX7_select_138 rfl (by decide) (by decide) rfl (by simp [Value.category]) ?_
    refine m_vret C E dX7_select_141 ?_
    (first | exact ⟨rfl, by unfold f_sel; rw [if_neg (bI_0.mp c134), bI_f (bI_0.mp c134)]⟩ | exact ⟨rfl, by unfold f_sel; rw [if_pos (bI_0n.mp c134), bI_t (bI_0n.mp c134)]⟩)
theorem s_longFrame (hW : Wm w M) (k : Nat) (hk : k < 12) : TF w M yX7_longFrame cX7_longFrame 2 none 1 [.int (nI k)] S none (f_long S k) := by
  refine TM.intro hW rfl (Nat.le_of_ble_eq_true rfl) (fun z C Y E hn => ?_)
  refine x_aload_n C dX7_longFrame_0 rfl ?_
  refine m_getA C Y 3 (by decide) (by decide) wf_X7_13 dX7_longFrame_1 ?_
  refine x_bipush (v := 6) C dX7_longFrame_4 (by decide) ?_
  refine m_ildN C Y 3 (6) (by decide) dX7_longFrame_6 (by simp only [nI_lit, nI_add, pk_mul]) (by simp only [m_len]; omega) ?_
  refine x_bipush (v := 80) C dX7_longFrame_7 (by decide) ?_
  refine x_icmp_ne (tgt := 34) C dX7_longFrame_9 (by decide) (fun c9 => ?_) (fun c9 => ?_)
  · skip
    refine x_aload_n C dX7_longFrame_34 rfl ?_
    refine m_getA C Y 3 (by decide) (by decide) wf_X7_13 dX7_longFrame_35 ?_
    refine x_bipush (v := 6) C dX7_longFrame_38 (by decide) ?_
    refine m_ildN C Y 3 (6) (by decide) dX7_longFrame_40 (by simp only [nI_lit, nI_add, pk_mul]) (by simp only [m_len]; omega) ?_
    refine x_bipush (v := 81) C dX7_longFrame_41 (by decide) ?_
    refine x_icmp_ne (tgt := 110) C dX7_longFrame_43 (by decide) (fun c43 => ?_) (fun c43 => ?_)
    · skip
      refine m_vret C E dX7_longFrame_110 ?_
      refine ⟨rfl, ?_⟩; clear C Y E; (try simp only [← Int32.not_le] at *); unfold f_long; split <;> (try split) <;> first | rfl | (exfalso; grind)
    · skip
      refine x_aload_n C dX7_longFrame_46 rfl ?_
      refine m_getA C Y 3 (by decide) (by decide) wf_X7_13 dX7_longFrame_47 ?_
      refine x_iconst (v := 1) C dX7_longFrame_50 (by decide) ?_
      refine m_ildN C Y 3 (1) (by decide) dX7_longFrame_51 (by simp only [nI_lit, nI_add, pk_mul]) (by simp only [m_len]; omega) ?_
      refine x_bipush (v := 6) C dX7_longFrame_52 (by decide) ?_
      refine x_icmp_ne (tgt := 110) C dX7_longFrame_54 (by decide) (fun c54 => ?_) (fun c54 => ?_)
      · skip
        refine m_vret C E dX7_longFrame_110 ?_
        refine ⟨rfl, ?_⟩; clear C Y E; (try simp only [← Int32.not_le] at *); unfold f_long; split <;> (try split) <;> first | rfl | (exfalso; grind)
      · skip
        refine x_aload_n C dX7_longFrame_57 rfl ?_
        refine m_getA C Y 3 (by decide) (by decide) wf_X7_13 dX7_longFrame_58 ?_
        refine x_bipush (v := 7) C dX7_longFrame_61 (by decide) ?_
        refine m_ildN C Y 3 (7) (by decide) dX7_longFrame_63 (by simp only [nI_lit, nI_add, pk_mul]) (by simp only [m_len]; omega) ?_
        refine x_iconst (v := 1) C dX7_longFrame_64 (by decide) ?_
        refine x_icmp_ne (tgt := 110) C dX7_longFrame_65 (by decide) (fun c65 => ?_) (fun c65 => ?_)
        · skip
          refine m_vret C E dX7_longFrame_110 ?_
          refine ⟨rfl, ?_⟩; clear C Y E; (try simp only [← Int32.not_le] at *); unfold f_long; split <;> (try split) <;> first | rfl | (exfalso; grind)
        · skip
          refine x_aload_n C dX7_longFrame_68 rfl ?_
          refine m_getA C Y 3 (by decide) (by decide) wf_X7_13 dX7_longFrame_69 ?_
          refine x_bipush (v := 8) C dX7_longFrame_72 (by decide) ?_
          refine m_ildN C Y 3 (8) (by decide) dX7_longFrame_74 (by simp only [nI_lit, nI_add, pk_mul]) (by simp only [m_len]; omega) ?_
          refine x_bipush (v := 122) C dX7_longFrame_75 (by decide) ?_
          refine x_icmp_ne (tgt := 110) C dX7_longFrame_77 (by decide) (fun c77 => ?_) (fun c77 => ?_)
          · skip
            refine m_vret C E dX7_longFrame_110 ?_
            refine ⟨rfl, ?_⟩; clear C Y E; (try simp only [← Int32.not_le] at *); unfold f_long; split <;> (try split) <;> first | rfl | (exfalso; grind)
          · skip
            refine x_aload_n C dX7_longFrame_80 rfl ?_
            refine m_getA C Y 3 (by decide) (by decide) wf_X7_13 dX7_longFrame_81 ?_
            refine x_bipush (v := 9) C dX7_longFrame_84 (by decide) ?_
            refine m_ildN C Y 3 (9) (by decide) dX7_longFrame_86 (by simp only [nI_lit, nI_add, pk_mul]) (by simp only [m_len]; omega) ?_
            refine x_sipush (v := 250) C dX7_longFrame_87 (by decide) ?_
            refine x_icmp_gt (tgt := 110) C dX7_longFrame_90 (by decide) (fun c90 => ?_) (fun c90 => ?_)
            · skip
              refine m_vret C E dX7_longFrame_110 ?_
              refine ⟨rfl, ?_⟩; clear C Y E; (try simp only [← Int32.not_le] at *); unfold f_long; split <;> (try split) <;> first | rfl | (exfalso; grind)
            · skip
              refine x_aload_n C dX7_longFrame_93 rfl ?_
              refine m_getA C Y 11 (by decide) (by decide) wf_X7_23 dX7_longFrame_94 ?_
              refine x_iload_n C dX7_longFrame_97 rfl ?_
              refine x_aload_n C dX7_longFrame_98 rfl ?_
              refine m_getA C Y 3 (by decide) (by decide) wf_X7_13 dX7_longFrame_99 ?_
              refine x_bipush (v := 9) C dX7_longFrame_102 (by decide) ?_
              refine m_ildN C Y 3 (9) (by decide) dX7_longFrame_104 (by simp only [nI_lit, nI_add, pk_mul]) (by simp only [m_len]; omega) ?_
              refine m_istN C Y hW.2.1 11 (k) (by decide) dX7_longFrame_105 (by simp only [nI_lit, nI_add, pk_mul]) (by simp only [m_len]; omega) ?_
              refine x_aload_n C dX7_longFrame_106 rfl ?_
              refine m_callF C Y hW E (s_ack hW) rfl md_X7_acknowledge wi_X7_acknowledge ws_X7_acknowledge wm_X7_159 dX7_longFrame_107 rfl (by decide) (by decide) rfl (by simp [Value.category]) ?_
              refine m_vret C E dX7_longFrame_110 ?_
              refine ⟨rfl, ?_⟩; clear C Y E; (try simp only [← Int32.not_le] at *); unfold f_long; split <;> (try split) <;> first | rfl | (exfalso; grind)
  · skip
    refine x_aload_n C dX7_longFrame_12 rfl ?_
    refine m_getA C Y 3 (by decide) (by decide) wf_X7_13 dX7_longFrame_13 ?_
    refine x_iconst (v := 1) C dX7_longFrame_16 (by decide) ?_
    refine m_ildN C Y 3 (1) (by decide) dX7_longFrame_17 (by simp only [nI_lit, nI_add, pk_mul]) (by simp only [m_len]; omega) ?_
    refine x_iconst (v := 3) C dX7_longFrame_18 (by decide) ?_
    refine x_icmp_ne (tgt := 34) C dX7_longFrame_19 (by decide) (fun c19 => ?_) (fun c19 => ?_)
    · skip
      refine x_aload_n C dX7_longFrame_34 rfl ?_
      refine m_getA C Y 3 (by decide) (by decide) wf_X7_13 dX7_longFrame_35 ?_
      refine x_bipush (v := 6) C dX7_longFrame_38 (by decide) ?_
      refine m_ildN C Y 3 (6) (by decide) dX7_longFrame_40 (by simp only [nI_lit, nI_add, pk_mul]) (by simp only [m_len]; omega) ?_
      refine x_bipush (v := 81) C dX7_longFrame_41 (by decide) ?_
      refine x_icmp_ne (tgt := 110) C dX7_longFrame_43 (by decide) (fun c43 => ?_) (fun c43 => ?_)
      · skip
        refine m_vret C E dX7_longFrame_110 ?_
        refine ⟨rfl, ?_⟩; clear C Y E; (try simp only [← Int32.not_le] at *); unfold f_long; split <;> (try split) <;> first | rfl | (exfalso; grind)
      · skip
        refine x_aload_n C dX7_longFrame_46 rfl ?_
        refine m_getA C Y 3 (by decide) (by decide) wf_X7_13 dX7_longFrame_47 ?_
        refine x_iconst (v := 1) C dX7_longFrame_50 (by decide) ?_
        refine m_ildN C Y 3 (1) (by decide) dX7_longFrame_51 (by simp only [nI_lit, nI_add, pk_mul]) (by simp only [m_len]; omega) ?_
        refine x_bipush (v := 6) C dX7_longFrame_52 (by decide) ?_
        refine x_icmp_ne (tgt := 110) C dX7_longFrame_54 (by decide) (fun c54 => ?_) (fun c54 => ?_)
        · skip
          refine m_vret C E dX7_longFrame_110 ?_
          refine ⟨rfl, ?_⟩; clear C Y E; (try simp only [← Int32.not_le] at *); unfold f_long; split <;> (try split) <;> first | rfl | (exfalso; grind)
        · skip
          refine x_aload_n C dX7_longFrame_57 rfl ?_
          refine m_getA C Y 3 (by decide) (by decide) wf_X7_13 dX7_longFrame_58 ?_
          refine x_bipush (v := 7) C dX7_longFrame_61 (by decide) ?_
          refine m_ildN C Y 3 (7) (by decide) dX7_longFrame_63 (by simp only [nI_lit, nI_add, pk_mul]) (by simp only [m_len]; omega) ?_
          refine x_iconst (v := 1) C dX7_longFrame_64 (by decide) ?_
          refine x_icmp_ne (tgt := 110) C dX7_longFrame_65 (by decide) (fun c65 => ?_) (fun c65 => ?_)
          · skip
            refine m_vret C E dX7_longFrame_110 ?_
            refine ⟨rfl, ?_⟩; clear C Y E; (try simp only [← Int32.not_le] at *); unfold f_long; split <;> (try split) <;> first | rfl | (exfalso; grind)
          · skip
            refine x_aload_n C dX7_longFrame_68 rfl ?_
            refine m_getA C Y 3 (by decide) (by decide) wf_X7_13 dX7_longFrame_69 ?_
            refine x_bipush (v := 8) C dX7_longFrame_72 (by decide) ?_
            refine m_ildN C Y 3 (8) (by decide) dX7_longFrame_74 (by simp only [nI_lit, nI_add, pk_mul]) (by simp only [m_len]; omega) ?_
            refine x_bipush (v := 122) C dX7_longFrame_75 (by decide) ?_
            refine x_icmp_ne (tgt := 110) C dX7_longFrame_77 (by decide) (fun c77 => ?_) (fun c77 => ?_)
            · skip
              refine m_vret C E dX7_longFrame_110 ?_
              refine ⟨rfl, ?_⟩; clear C Y E; (try simp only [← Int32.not_le] at *); unfold f_long; split <;> (try split) <;> first | rfl | (exfalso; grind)
            · skip
              refine x_aload_n C dX7_longFrame_80 rfl ?_
              refine m_getA C Y 3 (by decide) (by decide) wf_X7_13 dX7_longFrame_81 ?_
              refine x_bipush (v := 9) C dX7_longFrame_84 (by decide) ?_
              refine m_ildN C Y 3 (9) (by decide) dX7_longFrame_86 (by simp only [nI_lit, nI_add, pk_mul]) (by simp only [m_len]; omega) ?_
              refine x_sipush (v := 250) C dX7_longFrame_87 (by decide) ?_
              refine x_icmp_gt (tgt := 110) C dX7_longFrame_90 (by decide) (fun c90 => ?_) (fun c90 => ?_)
              · skip
                refine m_vret C E dX7_longFrame_110 ?_
                refine ⟨rfl, ?_⟩; clear C Y E; (try simp only [← Int32.not_le] at *); unfold f_long; split <;> (try split) <;> first | rfl | (exfalso; grind)
              · skip
                refine x_aload_n C dX7_longFrame_93 rfl ?_
                refine m_getA C Y 11 (by decide) (by decide) wf_X7_23 dX7_longFrame_94 ?_
                refine x_iload_n C dX7_longFrame_97 rfl ?_
                refine x_aload_n C dX7_longFrame_98 rfl ?_
                refine m_getA C Y 3 (by decide) (by decide) wf_X7_13 dX7_longFrame_99 ?_
                refine x_bipush (v := 9) C dX7_longFrame_102 (by decide) ?_
                refine m_ildN C Y 3 (9) (by decide) dX7_longFrame_104 (by simp only [nI_lit, nI_add, pk_mul]) (by simp only [m_len]; omega) ?_
                refine m_istN C Y hW.2.1 11 (k) (by decide) dX7_longFrame_105 (by simp only [nI_lit, nI_add, pk_mul]) (by simp only [m_len]; omega) ?_
                refine x_aload_n C dX7_longFrame_106 rfl ?_
                refine m_callF C Y hW E (s_ack hW) rfl md_X7_acknowledge wi_X7_acknowledge ws_X7_acknowledge wm_X7_159 dX7_longFrame_107 rfl (by decide) (by decide) rfl (by simp [Value.category]) ?_
                refine m_vret C E dX7_longFrame_110 ?_
                refine ⟨rfl, ?_⟩; clear C Y E; (try simp only [← Int32.not_le] at *); unfold f_long; split <;> (try split) <;> first | rfl | (exfalso; grind)
    · skip
      refine x_aload_n C dX7_longFrame_22 rfl ?_
      refine x_iload_n C dX7_longFrame_23 rfl ?_
      refine m_callF C Y hW E (s_forget hW k hk) rfl md_X7_forget wi_X7_forget ws_X7_forget wm_X7_162 dX7_longFrame_24 rfl (by decide) (by decide) rfl (by simp [Value.category]) ?_
      refine x_aload_n C dX7_longFrame_27 rfl ?_
      refine m_callF C Y hW E (s_ack hW) rfl md_X7_acknowledge wi_X7_acknowledge ws_X7_acknowledge wm_X7_159 dX7_longFrame_28 rfl (by decide) (by decide) rfl (by simp [Value.category]) ?_
      refine x_goto (tgt := 110) C dX7_longFrame_31 (by decide) ?_
      refine m_vret C E dX7_longFrame_110 ?_
      refine ⟨rfl, ?_⟩; clear C Y E; (try simp only [← Int32.not_le] at *); unfold f_long; split <;> (try split) <;> first | rfl | (exfalso; grind)
end Small
end
section
/-! MeterBusModel: the answer that is said byte by byte. -/
theorem MS.ext {S S' : MS} (h1 : ∀ k, S.i k = S'.i k) (h2 : ∀ k j, S.a k j = S'.a k j) (h3 : ∀ k j, S.w k j = S'.w k j) : S = S' :=
  Prod.ext (funext h1) (Prod.ext (funext fun k => funext (h2 k)) (funext fun k => funext (h3 k)))
/-- the list l written over array k from 0 on -/
def MS.wr (S : MS) (k : Nat) (l : List Int32) : MS := (S.1, va_up S.2.1 k (fun j => if j < l.length then l.getD j 0 else S.2.1 k j), S.2.2)
theorem MS.wr_i (S : MS) (k : Nat) (l : List Int32) (q : Nat) : (S.wr k l).i q = S.i q := rfl
theorem MS.wr_w (S : MS) (k : Nat) (l : List Int32) (q j : Nat) : (S.wr k l).w q j = S.w q j := rfl
theorem MS.wr_a (S : MS) (k : Nat) (l : List Int32) (q j : Nat) : (S.wr k l).a q j = if q = k ∧ j < l.length then l.getD j 0 else S.a q j := by
  by_cases h : q = k
  · subst h
    by_cases g : j < l.length <;> simp [MS.wr, MS.a, va_up, g]
  · simp [MS.wr, MS.a, va_up, h]
theorem MS.wr_nil (S : MS) (k : Nat) : S.wr k [] = S := MS.ext (fun _ => rfl) (fun q j => by rw [MS.wr_a]; simp) (fun _ _ => rfl)
/-- the answer so far -/
def MS.ans (S : MS) (l : List Int32) : MS := (S.wr 5 l).si 6 (nI l.length)
theorem MS.ans_i (S : MS) (l : List Int32) (q : Nat) : (S.ans l).i q = if q = 6 then nI l.length else S.i q := rfl
theorem MS.ans_a (S : MS) (l : List Int32) (q j : Nat) : (S.ans l).a q j = if q = 5 ∧ j < l.length then l.getD j 0 else S.a q j := MS.wr_a S 5 l q j
theorem MS.ans_w (S : MS) (l : List Int32) (q j : Nat) : (S.ans l).w q j = S.w q j := rfl
theorem MS.ans_nil (S : MS) : S.ans [] = S.si 6 0 := by unfold MS.ans; rw [MS.wr_nil]; rfl
theorem MS.ans_say (S : MS) (l : List Int32) (b : Int32) : ((S.ans l).sa 5 l.length b).si 6 (nI (l.length + 1)) = S.ans (l ++ [b]) := by
  refine MS.ext (fun q => ?_) (fun q j => ?_) (fun _ _ => rfl)
  · simp only [MS.si_i, MS.sa_i, MS.ans_i, List.length_append, List.length_singleton]
    split <;> rfl
  · simp only [MS.si_a, MS.sa_a, MS.ans_a, List.length_append, List.length_singleton, List.getD_eq_getElem?_getD]
    by_cases h : q = 5
    · subst h
      by_cases g : j = l.length
      · subst g; simp
      · by_cases g2 : j < l.length
        · simp [g, g2, List.getElem?_append_left, Nat.lt_succ_of_lt g2]
        · simp [g, g2, show ¬ j < l.length + 1 by omega]
    · simp [h]
section Small
variable {w : Wd} {M : MW} {S : MS}
theorem s_sayL (hW : Wm w M) (l : List Int32) (b : Int32) (hl : l.length < 300) : TF w M yX7_say cX7_say 2 none 0 [.int b] (S.ans l) none (S.ans (l ++ [b])) := by
  have := s_say (S := S.ans l) hW b l.length rfl hl
  rw [MS.ans_say] at this
  exact this
end Small
theorem MS.ans_ne {S : MS} {l : List Int32} {q j : Nat} (h : q ≠ 5) : (S.ans l).a q j = S.a q j := by rw [MS.ans_a]; simp [h]
theorem MS.ans_6 {S : MS} {l : List Int32} : (S.ans l).i 6 = nI l.length := rfl
theorem MS.ans_5 {S : MS} {l : List Int32} {j : Nat} (h : j < l.length) : (S.ans l).a 5 j = l.getD j 0 := by rw [MS.ans_a]; simp [h]
/-- n bytes of array q from o on -/
def MS.seg (S : MS) (q o n : Nat) : List Int32 := (List.range n).map (fun j => S.a q (o + j))
theorem MS.seg_len (S : MS) (q o n : Nat) : (S.seg q o n).length = n := by simp [MS.seg]
theorem MS.seg_s (S : MS) (q o n : Nat) : S.seg q o (n + 1) = S.seg q o n ++ [S.a q (o + n)] := by simp [MS.seg, List.range_succ]
theorem MS.seg_0 (S : MS) (q o : Nat) : S.seg q o 0 = [] := rfl
def sumL (l : List Int32) (a b : Nat) : Int32 := ((List.range (b - a)).map (fun j => l.getD (a + j) 0)).foldl (· + ·) 0
theorem sumL_0 (l : List Int32) (a : Nat) : sumL l a a = 0 := by simp [sumL]
theorem sumL_s (l : List Int32) {a b : Nat} (h : a ≤ b) : sumL l a (b + 1) = sumL l a b + l.getD b 0 := by
  unfold sumL
  rw [show b + 1 - a = (b - a) + 1 by omega, List.range_succ, List.map_append, List.foldl_append]
  simp [show a + (b - a) = b by omega]
section Tell
variable {w : Wd} {M : MW} {S : MS} {z : Fx} {post : Option Value → MS → Prop} {k p : Nat} {mv nv lv : Int32}
theorem tl1 (hW : Wm w M) (hk : k < 12) (C : Cx z RX7 cX7_tell gw) (Y : Mty z M) (E : Ct z w gw yX7_tell none 1 (40 * 1) (PM M post)) (hn : z.nL = 8) (l0 : List Int32) (h0 : l0.length ≤ 20)
    (kk : X z 0 0 (MA M (S.ans (l0 ++ S.seg 12 (8 * k) 8))) 129 [some (.ref M.o), some (.int (nI k)), some (.int (nI p)), some (.int mv), some (.int nv), some (.int lv), some (.int (nI 8)), none] []) :
    ∀ (n b : Nat), b + n = 8 → X z 0 0 (MA M (S.ans (l0 ++ S.seg 12 (8 * k) b))) 100 [some (.ref M.o), some (.int (nI k)), some (.int (nI p)), some (.int mv), some (.int nv), some (.int lv), some (.int (nI b)), none] [] := by
  intro n
  induction n with
  | zero =>
    intro b hb
    obtain rfl : b = 8 := by omega
    refine x_iload C dX7_tell_100 rfl ?_
    refine x_bipush (v := 8) C dX7_tell_102 (by decide) ?_
    refine x_icmp_ge (tgt := 129) C dX7_tell_104 (by decide) (fun c104 => ?_) (fun c104 => absurd c104 (by decide))
    exact kk
  | succ n ih =>
    intro b hb
    refine x_iload C dX7_tell_100 rfl ?_
    refine x_bipush (v := 8) C dX7_tell_102 (by decide) ?_
    refine x_icmp_ge (tgt := 129) C dX7_tell_104 (by decide) (fun c104 => absurd c104 (by rw [nI_lit]; exact nI_ge (show b < 8 by omega) (by decide))) (fun c104 => ?_)
    refine x_aload_n C dX7_tell_107 rfl ?_
    refine x_aload_n C dX7_tell_108 rfl ?_
    refine m_getA C Y 12 (by decide) (by decide) wf_X7_26 dX7_tell_109 ?_
    refine x_bipush (v := 8) C dX7_tell_112 (by decide) ?_
    refine x_iload_n C dX7_tell_114 rfl ?_
    refine x_imul C dX7_tell_115 ?_
    refine x_iload C dX7_tell_116 rfl ?_
    refine x_iadd C dX7_tell_118 ?_
    refine m_ildN C Y 12 (8 * k + b) (by decide) dX7_tell_119 (by simp only [nI_lit, nI_add, pk_mul]) (by simp only [m_len]; omega) ?_
    rw [MS.ans_ne (by decide)]
    refine m_callF C Y hW E (s_sayL hW _ _ (by rw [List.length_append, MS.seg_len]; omega)) rfl md_X7_say wi_X7_say ws_X7_say wm_X7_169 dX7_tell_120 rfl (by decide) (by decide) rfl (by simp [Value.category]) ?_
    rw [List.append_assoc, ← MS.seg_s]
    refine x_iincE (v := nI (b + 1)) (L' := [some _, some _, some _, some _, some _, some _, some _, none]) C dX7_tell_123 rfl (nI_1 b) (by rw [hn]; decide) rfl ?_
    refine x_goto (tgt := 100) C dX7_tell_126 (by decide) ?_
    exact ih (b + 1) (by omega)
theorem tl2 (hW : Wm w M) (hk : k < 12) (hp : p < 3) (C : Cx z RX7 cX7_tell gw) (Y : Mty z M) (E : Ct z w gw yX7_tell none 1 (40 * 1) (PM M post)) (hn : z.nL = 8) (l0 : List Int32) (h0 : l0.length ≤ 40) (N : Nat) (hN : N ≤ 60)
    (kk : X z 0 0 (MA M (S.ans (l0 ++ S.seg 18 (60 * (3 * k + p)) N))) 190 [some (.ref M.o), some (.int (nI k)), some (.int (nI p)), some (.int mv), some (.int (nI N)), some (.int lv), some (.int (nI N)), none] []) :
    ∀ (n b : Nat), b + n = N → X z 0 0 (MA M (S.ans (l0 ++ S.seg 18 (60 * (3 * k + p)) b))) 157 [some (.ref M.o), some (.int (nI k)), some (.int (nI p)), some (.int mv), some (.int (nI N)), some (.int lv), some (.int (nI b)), none] [] := by
  intro n
  induction n with
  | zero =>
    intro b hb
    obtain rfl : b = N := by omega
    refine x_iload C dX7_tell_157 rfl ?_
    refine x_iload C dX7_tell_159 rfl ?_
    refine x_icmp_ge (tgt := 190) C dX7_tell_161 (by decide) (fun c161 => ?_) (fun c161 => absurd c161 (not_not_intro (Int32.le_refl _)))
    exact kk
  | succ n ih =>
    intro b hb
    refine x_iload C dX7_tell_157 rfl ?_
    refine x_iload C dX7_tell_159 rfl ?_
    refine x_icmp_ge (tgt := 190) C dX7_tell_161 (by decide) (fun c161 => absurd c161 (nI_ge (show b < N by omega) (by omega))) (fun c161 => ?_)
    refine x_aload_n C dX7_tell_164 rfl ?_
    refine x_aload_n C dX7_tell_165 rfl ?_
    refine m_getA C Y 18 (by decide) (by decide) wf_X7_44 dX7_tell_166 ?_
    refine x_bipush (v := 60) C dX7_tell_169 (by decide) ?_
    refine x_iconst (v := 3) C dX7_tell_171 (by decide) ?_
    refine x_iload_n C dX7_tell_172 rfl ?_
    refine x_imul C dX7_tell_173 ?_
    refine x_iload_n C dX7_tell_174 rfl ?_
    refine x_iadd C dX7_tell_175 ?_
    refine x_imul C dX7_tell_176 ?_
    refine x_iload C dX7_tell_177 rfl ?_
    refine x_iadd C dX7_tell_179 ?_
    refine m_ildN C Y 18 (60 * (3 * k + p) + b) (by decide) dX7_tell_180 (by simp only [nI_lit, nI_add, pk_mul]) (by simp only [m_len]; omega) ?_
    rw [MS.ans_ne (by decide)]
    refine m_callF C Y hW E (s_sayL hW _ _ (by rw [List.length_append, MS.seg_len]; omega)) rfl md_X7_say wi_X7_say ws_X7_say wm_X7_169 dX7_tell_181 rfl (by decide) (by decide) rfl (by simp [Value.category]) ?_
    rw [List.append_assoc, ← MS.seg_s]
    refine x_iincE (v := nI (b + 1)) (L' := [some _, some _, some _, some _, some _, some _, some _, none]) C dX7_tell_184 rfl (nI_1 b) (by rw [hn]; decide) rfl ?_
    refine x_goto (tgt := 157) C dX7_tell_187 (by decide) ?_
    exact ih (b + 1) (by omega)
theorem tl3 (hW : Wm w M) (C : Cx z RX7 cX7_tell gw) (Y : Mty z M) (E : Ct z w gw yX7_tell none 1 (40 * 1) (PM M post)) (hn : z.nL = 8) (l : List Int32) (h0 : l.length ≤ 200) (h4 : 4 ≤ l.length)
    (kk : X z 0 0 (MA M (S.ans l)) 233 [some (.ref M.o), some (.int (nI k)), some (.int (nI p)), some (.int mv), some (.int nv), some (.int lv), some (.int (sumL l 4 l.length)), some (.int (nI l.length))] []) :
    ∀ (n b : Nat), b + n = l.length → 4 ≤ b → X z 0 0 (MA M (S.ans l)) 206 [some (.ref M.o), some (.int (nI k)), some (.int (nI p)), some (.int mv), some (.int nv), some (.int lv), some (.int (sumL l 4 b)), some (.int (nI b))] [] := by
  intro n
  induction n with
  | zero =>
    intro b hb h4b
    obtain rfl : b = l.length := by omega
    refine x_iload C dX7_tell_206 rfl ?_
    refine x_aload_n C dX7_tell_208 rfl ?_
    refine m_get C Y 6 (by decide) (by decide) wf_X7_135 dX7_tell_209 ?_
    rw [MS.ans_6]
    refine x_icmp_ge (tgt := 233) C dX7_tell_212 (by decide) (fun c212 => ?_) (fun c212 => absurd c212 (not_not_intro (Int32.le_refl _)))
    exact kk
  | succ n ih =>
    intro b hb h4b
    refine x_iload C dX7_tell_206 rfl ?_
    refine x_aload_n C dX7_tell_208 rfl ?_
    refine m_get C Y 6 (by decide) (by decide) wf_X7_135 dX7_tell_209 ?_
    rw [MS.ans_6]
    refine x_icmp_ge (tgt := 233) C dX7_tell_212 (by decide) (fun c212 => absurd c212 (nI_ge (show b < l.length by omega) (by omega))) (fun c212 => ?_)
    refine x_iload C dX7_tell_215 rfl ?_
    refine x_aload_n C dX7_tell_217 rfl ?_
    refine m_getA C Y 5 (by decide) (by decide) wf_X7_16 dX7_tell_218 ?_
    refine x_iload C dX7_tell_221 rfl ?_
    refine m_ildN C Y 5 (b) (by decide) dX7_tell_223 (by simp only [nI_lit, nI_add, pk_mul]) (by simp only [m_len]; omega) ?_
    rw [MS.ans_5 (by omega)]
    refine x_iadd C dX7_tell_224 ?_
    rw [← sumL_s l h4b]
    refine x_istoreE (L' := [some _, some _, some _, some _, some _, some _, some _, some _]) C dX7_tell_225 (by rw [hn]; decide) rfl ?_
    refine x_iincE (v := nI (b + 1)) (L' := [some _, some _, some _, some _, some _, some _, some _, some _]) C dX7_tell_227 rfl (nI_1 b) (by rw [hn]; decide) rfl ?_
    refine x_goto (tgt := 206) C dX7_tell_230 (by decide) ?_
    exact ih (b + 1) (by omega) (by omega)
end Tell
def f_pages (S : MS) (k : Nat) : Nat := if 0 < S.a 17 (3 * k + 2) then 3 else if 0 < S.a 17 (3 * k + 1) then 2 else 1
def f_more (S : MS) (k p : Nat) : Bool := decide (p + 1 < f_pages S k)
def f_body (S : MS) (k p N : Nat) : List Int32 := [104, nI (15 + N + if f_more S k p then 1 else 0), nI (15 + N + if f_more S k p then 1 else 0), 104, 8, S.a 11 k, 114] ++ S.seg 12 (8 * k) 8 ++ [S.a 16 k, 0, 0, 0] ++ S.seg 18 (60 * (3 * k + p)) N ++ if f_more S k p then [31] else []
def f_tel (S : MS) (k p N : Nat) : List Int32 := f_body S k p N ++ [sumL (f_body S k p N) 4 (f_body S k p N).length &&& 255] ++ [22]
section Tell
variable {w : Wd} {M : MW} {S : MS}
theorem s_pages (hW : Wm w M) (k : Nat) (hk : k < 12) : TF w M yX7_pagesOf cX7_pagesOf 2 (some .int) 0 [.int (nI k)] S (some (.int (nI (f_pages S k)))) S := by
  have h := s_pagesOf (S := S) hW k hk
  have e : (if 0 < S.a 17 (3 * k + 2) then (3 : Int32) else if 0 < S.a 17 (3 * k + 1) then 2 else 1) = nI (f_pages S k) := by
    unfold f_pages; split; rfl; split; rfl; rfl
  rw [e] at h
  exact h
theorem f_pages_le (S : MS) (k : Nat) : 1 ≤ f_pages S k ∧ f_pages S k ≤ 3 := by unfold f_pages; split; omega; split <;> omega
theorem f_body_len (S : MS) (k p N : Nat) : (f_body S k p N).length = 19 + N + if f_more S k p then 1 else 0 := by
  unfold f_body
  split <;> simp [MS.seg_len] <;> omega
theorem x_ans {z : Fx} {kc ks pc : Nat} {L : List (Option Value)} {st : List Value} {l l' : List Int32} (e : l = l') (k : X z kc ks (MA M (S.ans l')) pc L st) : X z kc ks (MA M (S.ans l)) pc L st := by subst e; exact k
theorem tl_tail (hW : Wm w M) (k : Nat) (hk : k < 12) (p : Nat) (hp : p < 3) (N : Nat) (hN : N ≤ 60) {z : Fx} (C : Cx z RX7 cX7_tell gw) (Y : Mty z M) (E : Ct z w gw yX7_tell none 1 (40 * 1) (PM M (fun q Q => q = none ∧ Q = S.ans (f_tel S k p N)))) (hn : z.nL = 8) (lv : Int32) (hlv : lv = nI (15 + N + if f_more S k p then 1 else 0)) :
    X z 0 0 (MA M S) 46 [some (.ref M.o), some (.int (nI k)), some (.int (nI p)), some (.int (bI (f_more S k p = true))), some (.int (nI N)), some (.int lv), none, none] [] := by
  have hbl := f_body_len S k p N
  refine x_aload_n C dX7_tell_46 rfl ?_
  refine x_iconst (v := 0) C dX7_tell_47 (by decide) ?_
  refine m_put C Y hW.2.1 6 (by decide) (by decide) rfl rfl rfl wf_X7_135 dX7_tell_48 ?_
  rw [← MS.ans_nil]
  refine x_aload_n C dX7_tell_51 rfl ?_
  refine x_bipush (v := 104) C dX7_tell_52 (by decide) ?_
  refine m_callF C Y hW E (s_sayL hW _ _ (by simp)) rfl md_X7_say wi_X7_say ws_X7_say wm_X7_169 dX7_tell_54 rfl (by decide) (by decide) rfl (by simp [Value.category]) ?_
  refine x_aload_n C dX7_tell_57 rfl ?_
  refine x_iload C dX7_tell_58 rfl ?_
  refine m_callF C Y hW E (s_sayL hW _ _ (by simp)) rfl md_X7_say wi_X7_say ws_X7_say wm_X7_169 dX7_tell_60 rfl (by decide) (by decide) rfl (by simp [Value.category]) ?_
  refine x_aload_n C dX7_tell_63 rfl ?_
  refine x_iload C dX7_tell_64 rfl ?_
  refine m_callF C Y hW E (s_sayL hW _ _ (by simp)) rfl md_X7_say wi_X7_say ws_X7_say wm_X7_169 dX7_tell_66 rfl (by decide) (by decide) rfl (by simp [Value.category]) ?_
  refine x_aload_n C dX7_tell_69 rfl ?_
  refine x_bipush (v := 104) C dX7_tell_70 (by decide) ?_
  refine m_callF C Y hW E (s_sayL hW _ _ (by simp)) rfl md_X7_say wi_X7_say ws_X7_say wm_X7_169 dX7_tell_72 rfl (by decide) (by decide) rfl (by simp [Value.category]) ?_
  refine x_aload_n C dX7_tell_75 rfl ?_
  refine x_bipush (v := 8) C dX7_tell_76 (by decide) ?_
  refine m_callF C Y hW E (s_sayL hW _ _ (by simp)) rfl md_X7_say wi_X7_say ws_X7_say wm_X7_169 dX7_tell_78 rfl (by decide) (by decide) rfl (by simp [Value.category]) ?_
  refine x_aload_n C dX7_tell_81 rfl ?_
  refine x_aload_n C dX7_tell_82 rfl ?_
  refine m_getA C Y 11 (by decide) (by decide) wf_X7_23 dX7_tell_83 ?_
  refine x_iload_n C dX7_tell_86 rfl ?_
  refine m_ildN C Y 11 (k) (by decide) dX7_tell_87 (by simp only [nI_lit, nI_add, pk_mul]) (by simp only [m_len]; omega) ?_
  rw [MS.ans_ne (by decide)]
  refine m_callF C Y hW E (s_sayL hW _ _ (by simp)) rfl md_X7_say wi_X7_say ws_X7_say wm_X7_169 dX7_tell_88 rfl (by decide) (by decide) rfl (by simp [Value.category]) ?_
  refine x_aload_n C dX7_tell_91 rfl ?_
  refine x_bipush (v := 114) C dX7_tell_92 (by decide) ?_
  refine m_callF C Y hW E (s_sayL hW _ _ (by simp)) rfl md_X7_say wi_X7_say ws_X7_say wm_X7_169 dX7_tell_94 rfl (by decide) (by decide) rfl (by simp [Value.category]) ?_
  refine x_iconst (v := 0) C dX7_tell_97 (by decide) ?_
  refine x_istoreE (L' := [some _, some _, some _, some _, some _, some _, some _, none]) C dX7_tell_98 (by rw [hn]; decide) rfl ?_
  refine x_ans (l' := [104, lv, lv, 104, 8, S.a 11 k, 114] ++ S.seg 12 (8 * k) 0) (by simp [MS.seg_0]) ?_; refine tl1 hW hk C Y E hn [104, lv, lv, 104, 8, S.a 11 k, 114] (by simp) ?_ 8 0 rfl
  refine x_aload_n C dX7_tell_129 rfl ?_
  refine x_aload_n C dX7_tell_130 rfl ?_
  refine m_getA C Y 16 (by decide) (by decide) wf_X7_38 dX7_tell_131 ?_
  refine x_iload_n C dX7_tell_134 rfl ?_
  refine m_ildN C Y 16 (k) (by decide) dX7_tell_135 (by simp only [nI_lit, nI_add, pk_mul]) (by simp only [m_len]; omega) ?_
  rw [MS.ans_ne (by decide)]
  refine m_callF C Y hW E (s_sayL hW _ _ (by simp [MS.seg_len])) rfl md_X7_say wi_X7_say ws_X7_say wm_X7_169 dX7_tell_136 rfl (by decide) (by decide) rfl (by simp [Value.category]) ?_
  refine x_aload_n C dX7_tell_139 rfl ?_
  refine x_iconst (v := 0) C dX7_tell_140 (by decide) ?_
  refine m_callF C Y hW E (s_sayL hW _ _ (by simp [MS.seg_len])) rfl md_X7_say wi_X7_say ws_X7_say wm_X7_169 dX7_tell_141 rfl (by decide) (by decide) rfl (by simp [Value.category]) ?_
  refine x_aload_n C dX7_tell_144 rfl ?_
  refine x_iconst (v := 0) C dX7_tell_145 (by decide) ?_
  refine m_callF C Y hW E (s_sayL hW _ _ (by simp [MS.seg_len])) rfl md_X7_say wi_X7_say ws_X7_say wm_X7_169 dX7_tell_146 rfl (by decide) (by decide) rfl (by simp [Value.category]) ?_
  refine x_aload_n C dX7_tell_149 rfl ?_
  refine x_iconst (v := 0) C dX7_tell_150 (by decide) ?_
  refine m_callF C Y hW E (s_sayL hW _ _ (by simp [MS.seg_len])) rfl md_X7_say wi_X7_say ws_X7_say wm_X7_169 dX7_tell_151 rfl (by decide) (by decide) rfl (by simp [Value.category]) ?_
  refine x_iconst (v := 0) C dX7_tell_154 (by decide) ?_
  refine x_istoreE (L' := [some _, some _, some _, some _, some _, some _, some _, none]) C dX7_tell_155 (by rw [hn]; decide) rfl ?_
  refine x_ans (l' := ([104, lv, lv, 104, 8, S.a 11 k, 114] ++ S.seg 12 (8 * k) 8 ++ [S.a 16 k, 0, 0, 0]) ++ S.seg 18 (60 * (3 * k + p)) 0) (by simp [MS.seg_0]) ?_; refine tl2 hW hk hp C Y E hn _ (by simp [MS.seg_len]) N hN ?_ N 0 (by omega)
  by_cases hm : f_more S k p = true
  · rw [bI_t hm]
    refine x_iload_n C dX7_tell_190 rfl ?_
    refine x_if_eq (tgt := 200) C dX7_tell_191 (by decide) (fun c191 => absurd c191 (by decide)) (fun c191 => ?_)
    refine x_aload_n C dX7_tell_194 rfl ?_
    refine x_bipush (v := 31) C dX7_tell_195 (by decide) ?_
    refine m_callF C Y hW E (s_sayL hW _ _ (by simp [MS.seg_len]; omega)) rfl md_X7_say wi_X7_say ws_X7_say wm_X7_169 dX7_tell_197 rfl (by decide) (by decide) rfl (by simp [Value.category]) ?_
    refine x_iconst (v := 0) C dX7_tell_200 (by decide) ?_
    refine x_istoreE (L' := [some _, some _, some _, some _, some _, some _, some _, none]) C dX7_tell_201 (by rw [hn]; decide) rfl ?_
    refine x_iconst (v := 4) C dX7_tell_203 (by decide) ?_
    refine x_istoreE (L' := [some _, some _, some _, some _, some _, some _, some _, some _]) C dX7_tell_204 (by rw [hn]; decide) rfl ?_
    refine x_ans (l' := f_body S k p N) (by subst hlv; simp [f_body, hm]) ?_; refine tl3 hW C Y E hn _ (by rw [hbl]; split <;> omega) (by rw [hbl]; omega) ?_ ((f_body S k p N).length - 4) 4 (by rw [hbl]; omega) (by omega)
    refine x_aload_n C dX7_tell_233 rfl ?_
    refine x_iload C dX7_tell_234 rfl ?_
    refine x_sipush (v := 255) C dX7_tell_236 (by decide) ?_
    refine x_iand C dX7_tell_239 ?_
    refine m_callF C Y hW E (s_sayL hW _ _ (by simp [hbl]; split <;> omega)) rfl md_X7_say wi_X7_say ws_X7_say wm_X7_169 dX7_tell_240 rfl (by decide) (by decide) rfl (by simp [Value.category]) ?_
    refine x_aload_n C dX7_tell_243 rfl ?_
    refine x_bipush (v := 22) C dX7_tell_244 (by decide) ?_
    refine m_callF C Y hW E (s_sayL hW _ _ (by simp [hbl]; split <;> omega)) rfl md_X7_say wi_X7_say ws_X7_say wm_X7_169 dX7_tell_246 rfl (by decide) (by decide) rfl (by simp [Value.category]) ?_
    refine m_vret C E dX7_tell_249 ?_
    exact ⟨rfl, rfl⟩
  · rw [bI_f hm]
    refine x_iload_n C dX7_tell_190 rfl ?_
    refine x_if_eq (tgt := 200) C dX7_tell_191 (by decide) (fun c191 => ?_) (fun c191 => absurd c191 (fun q => q rfl))
    refine x_iconst (v := 0) C dX7_tell_200 (by decide) ?_
    refine x_istoreE (L' := [some _, some _, some _, some _, some _, some _, some _, none]) C dX7_tell_201 (by rw [hn]; decide) rfl ?_
    refine x_iconst (v := 4) C dX7_tell_203 (by decide) ?_
    refine x_istoreE (L' := [some _, some _, some _, some _, some _, some _, some _, some _]) C dX7_tell_204 (by rw [hn]; decide) rfl ?_
    refine x_ans (l' := f_body S k p N) (by subst hlv; simp [f_body, hm]) ?_; refine tl3 hW C Y E hn _ (by rw [hbl]; split <;> omega) (by rw [hbl]; omega) ?_ ((f_body S k p N).length - 4) 4 (by rw [hbl]; omega) (by omega)
    refine x_aload_n C dX7_tell_233 rfl ?_
    refine x_iload C dX7_tell_234 rfl ?_
    refine x_sipush (v := 255) C dX7_tell_236 (by decide) ?_
    refine x_iand C dX7_tell_239 ?_
    refine m_callF C Y hW E (s_sayL hW _ _ (by simp [hbl]; split <;> omega)) rfl md_X7_say wi_X7_say ws_X7_say wm_X7_169 dX7_tell_240 rfl (by decide) (by decide) rfl (by simp [Value.category]) ?_
    refine x_aload_n C dX7_tell_243 rfl ?_
    refine x_bipush (v := 22) C dX7_tell_244 (by decide) ?_
    refine m_callF C Y hW E (s_sayL hW _ _ (by simp [hbl]; split <;> omega)) rfl md_X7_say wi_X7_say ws_X7_say wm_X7_169 dX7_tell_246 rfl (by decide) (by decide) rfl (by simp [Value.category]) ?_
    refine m_vret C E dX7_tell_249 ?_
    exact ⟨rfl, rfl⟩
theorem s_tell (hW : Wm w M) (k : Nat) (hk : k < 12) (p : Nat) (hp : p < 3) (N : Nat) (hN : N ≤ 60) (hs : S.a 17 (3 * k + p) = nI N) : TF w M yX7_tell cX7_tell 8 none 1 [.int (nI k), .int (nI p)] S none (S.ans (f_tel S k p N)) := by
  refine TM.intro hW rfl (Nat.le_of_ble_eq_true rfl) (fun z C Y E hn => ?_)
  have hpg := f_pages_le S k
  have T46 := tl_tail hW k hk p hp N hN C Y E hn
  have hm1 : nI (f_pages S k) ≤ nI p + 1 ↔ ¬ f_more S k p = true := by
    rw [nI_1, nI_leI (by omega) (by omega)]
    unfold f_more
    rw [decide_eq_true_eq]
    omega
  have e0 : (15 : Int32) + nI N + 0 = nI (15 + N + 0) := by simp only [nI_lit, nI_add]
  have e1 : (15 : Int32) + nI N + 1 = nI (15 + N + 1) := by simp only [nI_lit, nI_add]
  refine x_iload_n C dX7_tell_0 rfl ?_
  refine x_iconst (v := 1) C dX7_tell_1 (by decide) ?_
  refine x_iadd C dX7_tell_2 ?_
  refine x_aload_n C dX7_tell_3 rfl ?_
  refine x_iload_n C dX7_tell_4 rfl ?_
  refine m_callF C Y hW E (s_pages hW k hk) rfl md_X7_pagesOf wi_X7_pagesOf ws_X7_pagesOf wm_X7_122 dX7_tell_5 rfl (by decide) (by decide) rfl (by simp [Value.category]) ?_
  refine x_icmp_ge (tgt := 15) C dX7_tell_8 (by decide) (fun c8 => ?_) (fun c8 => ?_)
  · skip
    refine x_iconst (v := 0) C dX7_tell_15 (by decide) ?_
    refine x_istore_nE (L' := [some _, some _, some _, some _, none, none, none, none]) C dX7_tell_16 (by rw [hn]; decide) rfl ?_
    refine x_aload_n C dX7_tell_17 rfl ?_
    refine m_getA C Y 17 (by decide) (by decide) wf_X7_41 dX7_tell_18 ?_
    refine x_iconst (v := 3) C dX7_tell_21 (by decide) ?_
    refine x_iload_n C dX7_tell_22 rfl ?_
    refine x_imul C dX7_tell_23 ?_
    refine x_iload_n C dX7_tell_24 rfl ?_
    refine x_iadd C dX7_tell_25 ?_
    refine m_ildN C Y 17 (3 * k + p) (by decide) dX7_tell_26 (by simp only [nI_lit, nI_add, pk_mul]) (by simp only [m_len]; omega) ?_
    rw [hs]
    refine x_istoreE (L' := [some _, some _, some _, some _, some _, none, none, none]) C dX7_tell_27 (by rw [hn]; decide) rfl ?_
    refine x_bipush (v := 15) C dX7_tell_29 (by decide) ?_
    refine x_iload C dX7_tell_31 rfl ?_
    refine x_iadd C dX7_tell_33 ?_
    refine x_iload_n C dX7_tell_34 rfl ?_
    refine x_if_eq (tgt := 42) C dX7_tell_35 (by decide) (fun c35 => ?_) (fun c35 => ?_)
    · skip
      refine x_iconst (v := 0) C dX7_tell_42 (by decide) ?_
      refine x_iadd C dX7_tell_43 ?_
      refine x_istoreE (L' := [some _, some _, some _, some _, some _, some _, none, none]) C dX7_tell_44 (by rw [hn]; decide) rfl ?_
      first | exact absurd c35 (by decide) | exact absurd rfl c35 | (have g := hm1.mp c8; rw [bI_f g] at T46; exact T46 _ (by rw [e0, if_neg g])) | (have g := Classical.not_not.mp (fun q => c8 (hm1.mpr q)); rw [bI_t g] at T46; exact T46 _ (by rw [e1, if_pos g]))
    · skip
      refine x_iconst (v := 1) C dX7_tell_38 (by decide) ?_
      refine x_goto (tgt := 43) C dX7_tell_39 (by decide) ?_
      refine x_iadd C dX7_tell_43 ?_
      refine x_istoreE (L' := [some _, some _, some _, some _, some _, some _, none, none]) C dX7_tell_44 (by rw [hn]; decide) rfl ?_
      first | exact absurd c35 (by decide) | exact absurd rfl c35 | (have g := hm1.mp c8; rw [bI_f g] at T46; exact T46 _ (by rw [e0, if_neg g])) | (have g := Classical.not_not.mp (fun q => c8 (hm1.mpr q)); rw [bI_t g] at T46; exact T46 _ (by rw [e1, if_pos g]))
  · skip
    refine x_iconst (v := 1) C dX7_tell_11 (by decide) ?_
    refine x_goto (tgt := 16) C dX7_tell_12 (by decide) ?_
    refine x_istore_nE (L' := [some _, some _, some _, some _, none, none, none, none]) C dX7_tell_16 (by rw [hn]; decide) rfl ?_
    refine x_aload_n C dX7_tell_17 rfl ?_
    refine m_getA C Y 17 (by decide) (by decide) wf_X7_41 dX7_tell_18 ?_
    refine x_iconst (v := 3) C dX7_tell_21 (by decide) ?_
    refine x_iload_n C dX7_tell_22 rfl ?_
    refine x_imul C dX7_tell_23 ?_
    refine x_iload_n C dX7_tell_24 rfl ?_
    refine x_iadd C dX7_tell_25 ?_
    refine m_ildN C Y 17 (3 * k + p) (by decide) dX7_tell_26 (by simp only [nI_lit, nI_add, pk_mul]) (by simp only [m_len]; omega) ?_
    rw [hs]
    refine x_istoreE (L' := [some _, some _, some _, some _, some _, none, none, none]) C dX7_tell_27 (by rw [hn]; decide) rfl ?_
    refine x_bipush (v := 15) C dX7_tell_29 (by decide) ?_
    refine x_iload C dX7_tell_31 rfl ?_
    refine x_iadd C dX7_tell_33 ?_
    refine x_iload_n C dX7_tell_34 rfl ?_
    refine x_if_eq (tgt := 42) C dX7_tell_35 (by decide) (fun c35 => ?_) (fun c35 => ?_)
    · skip
      refine x_iconst (v := 0) C dX7_tell_42 (by decide) ?_
      refine x_iadd C dX7_tell_43 ?_
      refine x_istoreE (L' := [some _, some _, some _, some _, some _, some _, none, none]) C dX7_tell_44 (by rw [hn]; decide) rfl ?_
      first | exact absurd c35 (by decide) | exact absurd rfl c35 | (have g := hm1.mp c8; rw [bI_f g] at T46; exact T46 _ (by rw [e0, if_neg g])) | (have g := Classical.not_not.mp (fun q => c8 (hm1.mpr q)); rw [bI_t g] at T46; exact T46 _ (by rw [e1, if_pos g]))
    · skip
      refine x_iconst (v := 1) C dX7_tell_38 (by decide) ?_
      refine x_goto (tgt := 43) C dX7_tell_39 (by decide) ?_
      refine x_iadd C dX7_tell_43 ?_
      refine x_istoreE (L' := [some _, some _, some _, some _, some _, some _, none, none]) C dX7_tell_44 (by rw [hn]; decide) rfl ?_
      first | exact absurd c35 (by decide) | exact absurd rfl c35 | (have g := hm1.mp c8; rw [bI_f g] at T46; exact T46 _ (by rw [e0, if_neg g])) | (have g := Classical.not_not.mp (fun q => c8 (hm1.mpr q)); rw [bI_t g] at T46; exact T46 _ (by rw [e1, if_pos g]))
end Tell
end
section
/-! MeterBusModel: short frames, what a frame is, the bus. -/
def f_t (S : MS) (k : Nat) : Nat := (S.a 14 k).toNatClampNeg
def f_N (S : MS) (k p : Nat) : Nat := (S.a 17 (3 * k + p)).toNatClampNeg
def f_p0 (S : MS) (k : Nat) (bit : Int32) : Nat := if 0 ≤ S.a 15 k then (if S.a 15 k = bit then f_t S k else f_t S k + 1) else 0
def f_p (S : MS) (k : Nat) (bit : Int32) : Nat := if f_p0 S k bit < f_pages S k then f_p0 S k bit else 0
/-- what a meter's arrays hold is as it must be -/
def WFm (S : MS) (k : Nat) : Prop := (0 ≤ S.a 15 k → ∃ t, t < 3 ∧ S.a 14 k = nI t) ∧ ∀ p, p < 3 → ∃ N, N ≤ 60 ∧ S.a 17 (3 * k + p) = nI N
def f_asked (S : MS) (k : Nat) (bit : Int32) : MS :=
  ((((S.ans (f_tel S k (f_p S k bit) (f_N S k (f_p S k bit)))).sa 14 k (nI (f_p S k bit))).sa 15 k bit).sa 16 k ((S.a 16 k + 1) &&& 255)).si 7 (S.i 7 + 1)
def f_short (S : MS) (k : Nat) (c a : Int32) : MS :=
  if c = 64 then f_ack ((f_forget S k).sa 13 k (bI (¬ S.a 13 k = 0 ∧ ¬ a = 253)))
  else if c = 91 ∨ c = 123 then f_asked S k (if c = 123 then 1 else 0) else S
section Short
variable {w : Wd} {M : MW} {S : MS}
theorem WFm.N {k p : Nat} (h : WFm S k) (hp : p < 3) : f_N S k p ≤ 60 ∧ S.a 17 (3 * k + p) = nI (f_N S k p) := by
  obtain ⟨N, h1, h2⟩ := h.2 p hp
  unfold f_N
  rw [h2, nI_clamp (by omega)]
  exact ⟨h1, rfl⟩
theorem WFm.t {k : Nat} (h : WFm S k) (g : 0 ≤ S.a 15 k) : f_t S k < 3 ∧ S.a 14 k = nI (f_t S k) := by
  obtain ⟨t, h1, h2⟩ := h.1 g
  unfold f_t
  rw [h2, nI_clamp (by omega)]
  exact ⟨h1, rfl⟩
theorem f_p_lt (S : MS) (k : Nat) (bit : Int32) : f_p S k bit < 3 := by
  have := f_pages_le S k
  unfold f_p
  split <;> omega
theorem f_p0_lt {k : Nat} (h : WFm S k) (bit : Int32) : f_p0 S k bit < 4 := by
  unfold f_p0
  split
  · have := (h.t (by assumption)).1
    split <;> omega
  · omega
theorem sh_tail (hW : Wm w M) (k : Nat) (hk : k < 12) (h : WFm S k) (bit : Int32) (c a : Int32) {z : Fx} (C : Cx z RX7 cX7_shortFrame gw) (Y : Mty z M) (E : Ct z w gw yX7_shortFrame none 2 (40 * 2) (PM M (fun q Q => q = none ∧ Q = f_asked S k bit))) (hn : z.nL = 6) (p0 : Int32) (e0 : p0 = nI (f_p0 S k bit)) :
    X z 0 0 (MA M S) 111 [some (.ref M.o), some (.int (nI k)), some (.int c), some (.int a), some (.int bit), none] [.int p0] := by
  subst e0
  have hpg := f_pages_le S k
  have hp0 := f_p0_lt h bit
  have hcmp : nI (f_pages S k) ≤ nI (f_p0 S k bit) ↔ ¬ f_p0 S k bit < f_pages S k := by rw [nI_leI (by omega) (by omega)]; omega
  have hlt := f_p_lt S k bit
  obtain ⟨hN1, hN2⟩ := h.N hlt
  have T129 : X z 0 0 (MA M S) 129 [some (.ref M.o), some (.int (nI k)), some (.int c), some (.int a), some (.int bit), some (.int (nI (f_p0 S k bit)))] [.int (nI (f_p S k bit))] := by
    refine x_istoreE (L' := [some _, some _, some _, some _, some _, some _]) C dX7_shortFrame_129 (by rw [hn]; decide) rfl ?_
    refine x_aload_n C dX7_shortFrame_131 rfl ?_
    refine x_iload_n C dX7_shortFrame_132 rfl ?_
    refine x_iload C dX7_shortFrame_133 rfl ?_
    refine m_callF C Y hW E (s_tell hW k hk (f_p S k bit) hlt (f_N S k (f_p S k bit)) hN1 hN2) rfl md_X7_tell wi_X7_tell ws_X7_tell wm_X7_165 dX7_shortFrame_135 rfl (by decide) (by decide) rfl (by simp [Value.category]) ?_
    refine x_aload_n C dX7_shortFrame_138 rfl ?_
    refine m_getA C Y 14 (by decide) (by decide) wf_X7_32 dX7_shortFrame_139 ?_
    refine x_iload_n C dX7_shortFrame_142 rfl ?_
    refine x_iload C dX7_shortFrame_143 rfl ?_
    refine m_istN C Y hW.2.1 14 (k) (by decide) dX7_shortFrame_145 (by simp only [nI_lit, nI_add, pk_mul]) (by simp only [m_len]; omega) ?_
    refine x_aload_n C dX7_shortFrame_146 rfl ?_
    refine m_getA C Y 15 (by decide) (by decide) wf_X7_35 dX7_shortFrame_147 ?_
    refine x_iload_n C dX7_shortFrame_150 rfl ?_
    refine x_iload C dX7_shortFrame_151 rfl ?_
    refine m_istN C Y hW.2.1 15 (k) (by decide) dX7_shortFrame_153 (by simp only [nI_lit, nI_add, pk_mul]) (by simp only [m_len]; omega) ?_
    refine x_aload_n C dX7_shortFrame_154 rfl ?_
    refine m_getA C Y 16 (by decide) (by decide) wf_X7_38 dX7_shortFrame_155 ?_
    refine x_iload_n C dX7_shortFrame_158 rfl ?_
    refine x_aload_n C dX7_shortFrame_159 rfl ?_
    refine m_getA C Y 16 (by decide) (by decide) wf_X7_38 dX7_shortFrame_160 ?_
    refine x_iload_n C dX7_shortFrame_163 rfl ?_
    refine m_ildN C Y 16 (k) (by decide) dX7_shortFrame_164 (by simp only [nI_lit, nI_add, pk_mul]) (by simp only [m_len]; omega) ?_
    rw [MS.sa_a, MS.sa_a, MS.ans_ne (by decide)]; simp only [show ¬ (16 = 15) by decide, show ¬ (16 = 14) by decide, false_and, if_false]
    refine x_iconst (v := 1) C dX7_shortFrame_165 (by decide) ?_
    refine x_iadd C dX7_shortFrame_166 ?_
    refine x_sipush (v := 255) C dX7_shortFrame_167 (by decide) ?_
    refine x_iand C dX7_shortFrame_170 ?_
    refine m_istN C Y hW.2.1 16 (k) (by decide) dX7_shortFrame_171 (by simp only [nI_lit, nI_add, pk_mul]) (by simp only [m_len]; omega) ?_
    refine x_aload_n C dX7_shortFrame_172 rfl ?_
    refine x_dup C dX7_shortFrame_173 rfl ?_
    refine m_get C Y 7 (by decide) (by decide) wf_X7_132 dX7_shortFrame_174 ?_
    refine x_iconst (v := 1) C dX7_shortFrame_177 (by decide) ?_
    refine x_iadd C dX7_shortFrame_178 ?_
    refine m_put C Y hW.2.1 7 (by decide) (by decide) rfl rfl rfl wf_X7_132 dX7_shortFrame_179 ?_
    refine m_vret C E dX7_shortFrame_182 ?_
    exact ⟨rfl, rfl⟩
  refine x_istoreE (L' := [some _, some _, some _, some _, some _, some _]) C dX7_shortFrame_111 (by rw [hn]; decide) rfl ?_
  refine x_iload C dX7_shortFrame_113 rfl ?_
  refine x_aload_n C dX7_shortFrame_115 rfl ?_
  refine x_iload_n C dX7_shortFrame_116 rfl ?_
  refine m_callF C Y hW E (s_pages hW k hk) rfl md_X7_pagesOf wi_X7_pagesOf ws_X7_pagesOf wm_X7_122 dX7_shortFrame_117 rfl (by decide) (by decide) rfl (by simp [Value.category]) ?_
  refine x_icmp_ge (tgt := 128) C dX7_shortFrame_120 (by decide) (fun c120 => ?_) (fun c120 => ?_)
  · skip
    refine x_iconst (v := 0) C dX7_shortFrame_128 (by decide) ?_
    first | (have g : f_p S k bit = 0 := if_neg (hcmp.mp c120); rw [g] at T129; exact T129) | (have g : f_p S k bit = f_p0 S k bit := if_pos (Classical.not_not.mp (fun q => c120 (hcmp.mpr q))); rw [g] at T129; exact T129)
  · skip
    refine x_iload C dX7_shortFrame_123 rfl ?_
    refine x_goto (tgt := 129) C dX7_shortFrame_125 (by decide) ?_
    first | (have g : f_p S k bit = 0 := if_neg (hcmp.mp c120); rw [g] at T129; exact T129) | (have g : f_p S k bit = f_p0 S k bit := if_pos (Classical.not_not.mp (fun q => c120 (hcmp.mpr q))); rw [g] at T129; exact T129)
theorem f_p0_neg {k : Nat} {bit : Int32} (g : ¬ 0 ≤ S.a 15 k) : (0 : Int32) = nI (f_p0 S k bit) := by unfold f_p0; rw [if_neg g]; rfl
theorem f_p0_same {k : Nat} {bit : Int32} (h : WFm S k) (g : 0 ≤ S.a 15 k) (e : S.a 15 k = bit) : S.a 14 k = nI (f_p0 S k bit) := by unfold f_p0; rw [if_pos g, if_pos e]; exact (h.t g).2
theorem f_p0_next {k : Nat} {bit : Int32} (h : WFm S k) (g : 0 ≤ S.a 15 k) (e : ¬ S.a 15 k = bit) : S.a 14 k + 1 = nI (f_p0 S k bit) := by unfold f_p0; rw [if_pos g, if_neg e, ← nI_1, ← (h.t g).2]
theorem s_short (hW : Wm w M) (k : Nat) (hk : k < 12) (h : WFm S k) (c a : Int32) : TF w M yX7_shortFrame cX7_shortFrame 6 none 2 [.int (nI k), .int c, .int a] S none (f_short S k c a) := by
  refine TM.intro hW rfl (Nat.le_of_ble_eq_true rfl) (fun z C Y E hn => ?_)
  by_cases h1 : c = 64
  · have e : f_short S k c a = f_ack ((f_forget S k).sa 13 k (bI (¬ S.a 13 k = 0 ∧ ¬ a = 253))) := if_pos h1
    rw [e] at E
    have hsel : (f_forget S k).a 13 k = S.a 13 k := by unfold f_forget; rw [MS.sa_a, MS.sa_a]; simp
    refine x_iload_n C dX7_shortFrame_0 rfl ?_
    refine x_bipush (v := 64) C dX7_shortFrame_1 (by decide) ?_
    refine x_icmp_ne (tgt := 45) C dX7_shortFrame_3 (by decide) (fun c3 => absurd c3 (not_not_intro h1)) (fun c3 => ?_)
    refine x_aload_n C dX7_shortFrame_6 rfl ?_
    refine x_iload_n C dX7_shortFrame_7 rfl ?_
    refine m_callF C Y hW E (s_forget hW k hk) rfl md_X7_forget wi_X7_forget ws_X7_forget wm_X7_162 dX7_shortFrame_8 rfl (by decide) (by decide) rfl (by simp [Value.category]) ?_
    refine x_aload_n C dX7_shortFrame_11 rfl ?_
    refine m_getA C Y 13 (by decide) (by decide) wf_X7_29 dX7_shortFrame_12 ?_
    refine x_iload_n C dX7_shortFrame_15 rfl ?_
    refine x_aload_n C dX7_shortFrame_16 rfl ?_
    refine m_getA C Y 13 (by decide) (by decide) wf_X7_29 dX7_shortFrame_17 ?_
    refine x_iload_n C dX7_shortFrame_20 rfl ?_
    refine m_zldN C Y 13 (k) (by decide) dX7_shortFrame_21 (by simp only [nI_lit, nI_add, pk_mul]) (by simp only [m_len]; omega) ?_
    rw [hsel]
    refine x_if_eq (tgt := 36) C dX7_shortFrame_22 (by decide) (fun c22 => ?_) (fun c22 => ?_)
    · skip
      refine x_iconst (v := 0) C dX7_shortFrame_36 (by decide) ?_
      refine m_zstN C Y hW.2.1 13 (k) (by decide) rfl dX7_shortFrame_37 (by simp only [nI_lit, nI_add, pk_mul]) (by simp only [m_len]; omega) ?_
      refine x_aload_n C dX7_shortFrame_38 rfl ?_
      refine m_callF C Y hW E (s_ack hW) rfl md_X7_acknowledge wi_X7_acknowledge ws_X7_acknowledge wm_X7_159 dX7_shortFrame_39 rfl (by decide) (by decide) rfl (by simp [Value.category]) ?_
      refine x_goto (tgt := 182) C dX7_shortFrame_42 (by decide) ?_
      refine m_vret C E dX7_shortFrame_182 ?_
      first | exact ⟨rfl, congrArg (fun t => f_ack ((f_forget S k).sa 13 k t)) (bI_00 (fun q => q.1 c22))⟩ | exact ⟨rfl, congrArg (fun t => f_ack ((f_forget S k).sa 13 k t)) (bI_00 (fun q => q.2 c29))⟩ | exact ⟨rfl, congrArg (fun t => f_ack ((f_forget S k).sa 13 k t)) (bI_1 ⟨c22, c29⟩)⟩
    · skip
      refine x_iload_n C dX7_shortFrame_25 rfl ?_
      refine x_sipush (v := 253) C dX7_shortFrame_26 (by decide) ?_
      refine x_icmp_eq (tgt := 36) C dX7_shortFrame_29 (by decide) (fun c29 => ?_) (fun c29 => ?_)
      · skip
        refine x_iconst (v := 0) C dX7_shortFrame_36 (by decide) ?_
        refine m_zstN C Y hW.2.1 13 (k) (by decide) rfl dX7_shortFrame_37 (by simp only [nI_lit, nI_add, pk_mul]) (by simp only [m_len]; omega) ?_
        refine x_aload_n C dX7_shortFrame_38 rfl ?_
        refine m_callF C Y hW E (s_ack hW) rfl md_X7_acknowledge wi_X7_acknowledge ws_X7_acknowledge wm_X7_159 dX7_shortFrame_39 rfl (by decide) (by decide) rfl (by simp [Value.category]) ?_
        refine x_goto (tgt := 182) C dX7_shortFrame_42 (by decide) ?_
        refine m_vret C E dX7_shortFrame_182 ?_
        first | exact ⟨rfl, congrArg (fun t => f_ack ((f_forget S k).sa 13 k t)) (bI_00 (fun q => q.1 c22))⟩ | exact ⟨rfl, congrArg (fun t => f_ack ((f_forget S k).sa 13 k t)) (bI_00 (fun q => q.2 c29))⟩ | exact ⟨rfl, congrArg (fun t => f_ack ((f_forget S k).sa 13 k t)) (bI_1 ⟨c22, c29⟩)⟩
      · skip
        refine x_iconst (v := 1) C dX7_shortFrame_32 (by decide) ?_
        refine x_goto (tgt := 37) C dX7_shortFrame_33 (by decide) ?_
        refine m_zstN C Y hW.2.1 13 (k) (by decide) rfl dX7_shortFrame_37 (by simp only [nI_lit, nI_add, pk_mul]) (by simp only [m_len]; omega) ?_
        refine x_aload_n C dX7_shortFrame_38 rfl ?_
        refine m_callF C Y hW E (s_ack hW) rfl md_X7_acknowledge wi_X7_acknowledge ws_X7_acknowledge wm_X7_159 dX7_shortFrame_39 rfl (by decide) (by decide) rfl (by simp [Value.category]) ?_
        refine x_goto (tgt := 182) C dX7_shortFrame_42 (by decide) ?_
        refine m_vret C E dX7_shortFrame_182 ?_
        first | exact ⟨rfl, congrArg (fun t => f_ack ((f_forget S k).sa 13 k t)) (bI_00 (fun q => q.1 c22))⟩ | exact ⟨rfl, congrArg (fun t => f_ack ((f_forget S k).sa 13 k t)) (bI_00 (fun q => q.2 c29))⟩ | exact ⟨rfl, congrArg (fun t => f_ack ((f_forget S k).sa 13 k t)) (bI_1 ⟨c22, c29⟩)⟩
  · by_cases h2 : c = 91 ∨ c = 123
    · have e : f_short S k c a = f_asked S k (if c = 123 then 1 else 0) := by unfold f_short; rw [if_neg h1, if_pos h2]
      rw [e] at E
      have T111 := sh_tail hW k hk h (if c = 123 then 1 else 0) c a C Y E hn
      have T70 : ∀ bit : Int32, bit = (if c = 123 then 1 else 0) → X z 0 0 (MA M S) 70 [some (.ref M.o), some (.int (nI k)), some (.int c), some (.int a), some (.int bit), none] [] := by
        intro bit eb
        rw [← eb] at T111
        refine x_aload_n C dX7_shortFrame_70 rfl ?_
        refine m_getA C Y 15 (by decide) (by decide) wf_X7_35 dX7_shortFrame_71 ?_
        refine x_iload_n C dX7_shortFrame_74 rfl ?_
        refine m_ildN C Y 15 (k) (by decide) dX7_shortFrame_75 (by simp only [nI_lit, nI_add, pk_mul]) (by simp only [m_len]; omega) ?_
        refine x_if_ge (tgt := 83) C dX7_shortFrame_76 (by decide) (fun c76 => ?_) (fun c76 => ?_)
        · skip
          refine x_aload_n C dX7_shortFrame_83 rfl ?_
          refine m_getA C Y 15 (by decide) (by decide) wf_X7_35 dX7_shortFrame_84 ?_
          refine x_iload_n C dX7_shortFrame_87 rfl ?_
          refine m_ildN C Y 15 (k) (by decide) dX7_shortFrame_88 (by simp only [nI_lit, nI_add, pk_mul]) (by simp only [m_len]; omega) ?_
          refine x_iload C dX7_shortFrame_89 rfl ?_
          refine x_icmp_ne (tgt := 103) C dX7_shortFrame_91 (by decide) (fun c91 => ?_) (fun c91 => ?_)
          · skip
            refine x_aload_n C dX7_shortFrame_103 rfl ?_
            refine m_getA C Y 14 (by decide) (by decide) wf_X7_32 dX7_shortFrame_104 ?_
            refine x_iload_n C dX7_shortFrame_107 rfl ?_
            refine m_ildN C Y 14 (k) (by decide) dX7_shortFrame_108 (by simp only [nI_lit, nI_add, pk_mul]) (by simp only [m_len]; omega) ?_
            refine x_iconst (v := 1) C dX7_shortFrame_109 (by decide) ?_
            refine x_iadd C dX7_shortFrame_110 ?_
            first | exact T111 _ (f_p0_neg c76) | exact T111 _ (f_p0_same h (Classical.not_not.mp c76) c91) | exact T111 _ (f_p0_next h (Classical.not_not.mp c76) c91) | exact T111 _ (f_p0_same h c76 c91) | exact T111 _ (f_p0_next h c76 c91)
          · skip
            refine x_aload_n C dX7_shortFrame_94 rfl ?_
            refine m_getA C Y 14 (by decide) (by decide) wf_X7_32 dX7_shortFrame_95 ?_
            refine x_iload_n C dX7_shortFrame_98 rfl ?_
            refine m_ildN C Y 14 (k) (by decide) dX7_shortFrame_99 (by simp only [nI_lit, nI_add, pk_mul]) (by simp only [m_len]; omega) ?_
            refine x_goto (tgt := 111) C dX7_shortFrame_100 (by decide) ?_
            first | exact T111 _ (f_p0_neg c76) | exact T111 _ (f_p0_same h (Classical.not_not.mp c76) c91) | exact T111 _ (f_p0_next h (Classical.not_not.mp c76) c91) | exact T111 _ (f_p0_same h c76 c91) | exact T111 _ (f_p0_next h c76 c91)
        · skip
          refine x_iconst (v := 0) C dX7_shortFrame_79 (by decide) ?_
          refine x_goto (tgt := 111) C dX7_shortFrame_80 (by decide) ?_
          first | exact T111 _ (f_p0_neg c76) | exact T111 _ (f_p0_same h (Classical.not_not.mp c76) c91) | exact T111 _ (f_p0_next h (Classical.not_not.mp c76) c91) | exact T111 _ (f_p0_same h c76 c91) | exact T111 _ (f_p0_next h c76 c91)
      refine x_iload_n C dX7_shortFrame_0 rfl ?_
      refine x_bipush (v := 64) C dX7_shortFrame_1 (by decide) ?_
      refine x_icmp_ne (tgt := 45) C dX7_shortFrame_3 (by decide) (fun c3 => ?_) (fun c3 => absurd c3 (fun q => h1 q))
      refine x_iload_n C dX7_shortFrame_45 rfl ?_
      refine x_bipush (v := 91) C dX7_shortFrame_46 (by decide) ?_
      refine x_icmp_eq (tgt := 57) C dX7_shortFrame_48 (by decide) (fun c48 => ?_) (fun c48 => ?_)
      · skip
        refine x_iload_n C dX7_shortFrame_57 rfl ?_
        refine x_bipush (v := 123) C dX7_shortFrame_58 (by decide) ?_
        refine x_icmp_ne (tgt := 67) C dX7_shortFrame_60 (by decide) (fun c60 => ?_) (fun c60 => ?_)
        · skip
          refine x_iconst (v := 0) C dX7_shortFrame_67 (by decide) ?_
          refine x_istoreE (L' := [some _, some _, some _, some _, some _, none]) C dX7_shortFrame_68 (by rw [hn]; decide) rfl ?_
          first | exact T70 _ (if_pos c60).symm | exact T70 _ (if_neg c60).symm
        · skip
          refine x_iconst (v := 1) C dX7_shortFrame_63 (by decide) ?_
          refine x_goto (tgt := 68) C dX7_shortFrame_64 (by decide) ?_
          refine x_istoreE (L' := [some _, some _, some _, some _, some _, none]) C dX7_shortFrame_68 (by rw [hn]; decide) rfl ?_
          first | exact T70 _ (if_pos c60).symm | exact T70 _ (if_neg c60).symm
      · skip
        refine x_iload_n C dX7_shortFrame_51 rfl ?_
        refine x_bipush (v := 123) C dX7_shortFrame_52 (by decide) ?_
        refine x_icmp_ne (tgt := 182) C dX7_shortFrame_54 (by decide) (fun c54 => ?_) (fun c54 => ?_)
        · skip
          refine m_vret C E dX7_shortFrame_182 ?_
          exact absurd h2 (fun q => q.elim c48 c54)
        · skip
          refine x_iload_n C dX7_shortFrame_57 rfl ?_
          refine x_bipush (v := 123) C dX7_shortFrame_58 (by decide) ?_
          refine x_icmp_ne (tgt := 67) C dX7_shortFrame_60 (by decide) (fun c60 => ?_) (fun c60 => ?_)
          · skip
            refine x_iconst (v := 0) C dX7_shortFrame_67 (by decide) ?_
            refine x_istoreE (L' := [some _, some _, some _, some _, some _, none]) C dX7_shortFrame_68 (by rw [hn]; decide) rfl ?_
            first | exact T70 _ (if_pos c60).symm | exact T70 _ (if_neg c60).symm
          · skip
            refine x_iconst (v := 1) C dX7_shortFrame_63 (by decide) ?_
            refine x_goto (tgt := 68) C dX7_shortFrame_64 (by decide) ?_
            refine x_istoreE (L' := [some _, some _, some _, some _, some _, none]) C dX7_shortFrame_68 (by rw [hn]; decide) rfl ?_
            first | exact T70 _ (if_pos c60).symm | exact T70 _ (if_neg c60).symm
    · have e : f_short S k c a = S := by unfold f_short; rw [if_neg h1, if_neg h2]
      rw [e] at E
      refine x_iload_n C dX7_shortFrame_0 rfl ?_
      refine x_bipush (v := 64) C dX7_shortFrame_1 (by decide) ?_
      refine x_icmp_ne (tgt := 45) C dX7_shortFrame_3 (by decide) (fun c3 => ?_) (fun c3 => absurd c3 (fun q => h1 q))
      refine x_iload_n C dX7_shortFrame_45 rfl ?_
      refine x_bipush (v := 91) C dX7_shortFrame_46 (by decide) ?_
      refine x_icmp_eq (tgt := 57) C dX7_shortFrame_48 (by decide) (fun c48 => absurd c48 (fun q => h2 (Or.inl q))) (fun c48 => ?_)
      refine x_iload_n C dX7_shortFrame_51 rfl ?_
      refine x_bipush (v := 123) C dX7_shortFrame_52 (by decide) ?_
      refine x_icmp_ne (tgt := 182) C dX7_shortFrame_54 (by decide) (fun c54 => ?_) (fun c54 => absurd c54 (fun q => h2 (Or.inr q)))
      refine m_vret C E dX7_shortFrame_182 ?_
      exact ⟨rfl, rfl⟩
end Short
end
section
/-! MeterBusModel: what a frame is; the bus. -/
def sumF (f : Nat → Int32) (a b : Nat) : Int32 := ((List.range (b - a)).map (fun j => f (a + j))).foldl (· + ·) 0
theorem sumF_0 (f : Nat → Int32) (a : Nat) : sumF f a a = 0 := by simp [sumF]
theorem sumF_s (f : Nat → Int32) {a b : Nat} (h : a ≤ b) : sumF f a (b + 1) = sumF f a b + f b := by
  unfold sumF
  rw [show b + 1 - a = (b - a) + 1 by omega, List.range_succ, List.map_append, List.foldl_append]
  simp [show a + (b - a) = b by omega]
abbrev f_isS (S : MS) : Prop := S.i 4 = 5 ∧ S.a 3 0 = 16 ∧ S.a 3 4 = 22 ∧ S.a 3 3 = (S.a 3 1 + S.a 3 2) &&& 255
abbrev f_isL (S : MS) (n : Nat) : Prop := 9 ≤ n ∧ S.a 3 0 = 104 ∧ ¬ S.a 3 1 < 3 ∧ S.a 3 1 ≤ 252 ∧ S.a 3 2 = S.a 3 1 ∧ S.a 3 3 = 104 ∧ nI n = S.a 3 1 + 6 ∧ S.a 3 (n - 1) = 22 ∧ S.a 3 (n - 2) = sumF (S.a 3) 4 (n - 2) &&& 255
section Frames
variable {w : Wd} {M : MW} {S : MS}
theorem s_isShort (hW : Wm w M) : TF w M yX7_isShort cX7_isShort 1 (some .boolean) 0 [] S (some (.int (bI (f_isS S)))) S := by
  refine TM.intro hW rfl (Nat.le_of_ble_eq_true rfl) (fun z C Y E hn => ?_)
  refine x_aload_n C dX7_isShort_0 rfl ?_
  refine m_get C Y 4 (by decide) (by decide) wf_X7_126 dX7_isShort_1 ?_
  refine x_iconst (v := 5) C dX7_isShort_4 (by decide) ?_
  refine x_icmp_ne (tgt := 60) C dX7_isShort_5 (by decide) (fun c5 => ?_) (fun c5 => ?_)
  · skip
    refine x_iconst (v := 0) C dX7_isShort_60 (by decide) ?_
    refine m_zret C E dX7_isShort_61 (by decide) ?_
    first | exact ⟨bI_vt ⟨c5, c16, c27, c53⟩, rfl⟩ | exact ⟨bI_vf (fun q => c5 q.1), rfl⟩ | exact ⟨bI_vf (fun q => c16 q.2.1), rfl⟩ | exact ⟨bI_vf (fun q => c27 q.2.2.1), rfl⟩ | exact ⟨bI_vf (fun q => c53 q.2.2.2), rfl⟩
  · skip
    refine x_aload_n C dX7_isShort_8 rfl ?_
    refine m_getA C Y 3 (by decide) (by decide) wf_X7_13 dX7_isShort_9 ?_
    refine x_iconst (v := 0) C dX7_isShort_12 (by decide) ?_
    refine m_ildN C Y 3 (0) (by decide) dX7_isShort_13 (by simp only [nI_lit, nI_add, pk_mul]) (by simp only [m_len]; omega) ?_
    refine x_bipush (v := 16) C dX7_isShort_14 (by decide) ?_
    refine x_icmp_ne (tgt := 60) C dX7_isShort_16 (by decide) (fun c16 => ?_) (fun c16 => ?_)
    · skip
      refine x_iconst (v := 0) C dX7_isShort_60 (by decide) ?_
      refine m_zret C E dX7_isShort_61 (by decide) ?_
      first | exact ⟨bI_vt ⟨c5, c16, c27, c53⟩, rfl⟩ | exact ⟨bI_vf (fun q => c5 q.1), rfl⟩ | exact ⟨bI_vf (fun q => c16 q.2.1), rfl⟩ | exact ⟨bI_vf (fun q => c27 q.2.2.1), rfl⟩ | exact ⟨bI_vf (fun q => c53 q.2.2.2), rfl⟩
    · skip
      refine x_aload_n C dX7_isShort_19 rfl ?_
      refine m_getA C Y 3 (by decide) (by decide) wf_X7_13 dX7_isShort_20 ?_
      refine x_iconst (v := 4) C dX7_isShort_23 (by decide) ?_
      refine m_ildN C Y 3 (4) (by decide) dX7_isShort_24 (by simp only [nI_lit, nI_add, pk_mul]) (by simp only [m_len]; omega) ?_
      refine x_bipush (v := 22) C dX7_isShort_25 (by decide) ?_
      refine x_icmp_ne (tgt := 60) C dX7_isShort_27 (by decide) (fun c27 => ?_) (fun c27 => ?_)
      · skip
        refine x_iconst (v := 0) C dX7_isShort_60 (by decide) ?_
        refine m_zret C E dX7_isShort_61 (by decide) ?_
        first | exact ⟨bI_vt ⟨c5, c16, c27, c53⟩, rfl⟩ | exact ⟨bI_vf (fun q => c5 q.1), rfl⟩ | exact ⟨bI_vf (fun q => c16 q.2.1), rfl⟩ | exact ⟨bI_vf (fun q => c27 q.2.2.1), rfl⟩ | exact ⟨bI_vf (fun q => c53 q.2.2.2), rfl⟩
      · skip
        refine x_aload_n C dX7_isShort_30 rfl ?_
        refine m_getA C Y 3 (by decide) (by decide) wf_X7_13 dX7_isShort_31 ?_
        refine x_iconst (v := 3) C dX7_isShort_34 (by decide) ?_
        refine m_ildN C Y 3 (3) (by decide) dX7_isShort_35 (by simp only [nI_lit, nI_add, pk_mul]) (by simp only [m_len]; omega) ?_
        refine x_aload_n C dX7_isShort_36 rfl ?_
        refine m_getA C Y 3 (by decide) (by decide) wf_X7_13 dX7_isShort_37 ?_
        refine x_iconst (v := 1) C dX7_isShort_40 (by decide) ?_
        refine m_ildN C Y 3 (1) (by decide) dX7_isShort_41 (by simp only [nI_lit, nI_add, pk_mul]) (by simp only [m_len]; omega) ?_
        refine x_aload_n C dX7_isShort_42 rfl ?_
        refine m_getA C Y 3 (by decide) (by decide) wf_X7_13 dX7_isShort_43 ?_
        refine x_iconst (v := 2) C dX7_isShort_46 (by decide) ?_
        refine m_ildN C Y 3 (2) (by decide) dX7_isShort_47 (by simp only [nI_lit, nI_add, pk_mul]) (by simp only [m_len]; omega) ?_
        refine x_iadd C dX7_isShort_48 ?_
        refine x_sipush (v := 255) C dX7_isShort_49 (by decide) ?_
        refine x_iand C dX7_isShort_52 ?_
        refine x_icmp_ne (tgt := 60) C dX7_isShort_53 (by decide) (fun c53 => ?_) (fun c53 => ?_)
        · skip
          refine x_iconst (v := 0) C dX7_isShort_60 (by decide) ?_
          refine m_zret C E dX7_isShort_61 (by decide) ?_
          first | exact ⟨bI_vt ⟨c5, c16, c27, c53⟩, rfl⟩ | exact ⟨bI_vf (fun q => c5 q.1), rfl⟩ | exact ⟨bI_vf (fun q => c16 q.2.1), rfl⟩ | exact ⟨bI_vf (fun q => c27 q.2.2.1), rfl⟩ | exact ⟨bI_vf (fun q => c53 q.2.2.2), rfl⟩
        · skip
          refine x_iconst (v := 1) C dX7_isShort_56 (by decide) ?_
          refine x_goto (tgt := 61) C dX7_isShort_57 (by decide) ?_
          refine m_zret C E dX7_isShort_61 (by decide) ?_
          first | exact ⟨bI_vt ⟨c5, c16, c27, c53⟩, rfl⟩ | exact ⟨bI_vf (fun q => c5 q.1), rfl⟩ | exact ⟨bI_vf (fun q => c16 q.2.1), rfl⟩ | exact ⟨bI_vf (fun q => c27 q.2.2.1), rfl⟩ | exact ⟨bI_vf (fun q => c53 q.2.2.2), rfl⟩
theorem s_isLong (hW : Wm w M) (n : Nat) (hs : S.i 4 = nI n) (hn3 : n ≤ 300) : TF w M yX7_isLong cX7_isLong 3 (some .boolean) 0 [] S (some (.int (bI (f_isL S n)))) S := by
  refine TM.intro hW rfl (Nat.le_of_ble_eq_true rfl) (fun z C Y E hn => ?_)
  have i9 : S.i 4 < 9 ↔ ¬ 9 ≤ n := by rw [hs, show (9 : Int32) = nI 9 from rfl, nI_ltI (by omega) (by omega)]; omega
  have ex : ∀ x : Int32, 252 < x ↔ ¬ x ≤ 252 := fun x => Int32.not_le.symm
  have T131 : ∀ s : Int32, s = sumF (S.a 3) 4 (n - 2) → 9 ≤ n ∧ S.a 3 0 = 104 ∧ ¬ S.a 3 1 < 3 ∧ S.a 3 1 ≤ 252 ∧ S.a 3 2 = S.a 3 1 ∧ S.a 3 3 = 104 ∧ nI n = S.a 3 1 + 6 ∧ S.a 3 (n - 1) = 22 → X z 0 0 (MA M S) 131 [some (.ref M.o), some (.int s), some (.int (nI (n - 2)))] [] := by
    intro s hs2 ⟨a1, a2, a3, a4, a5, a6, a7, a8⟩
    subst hs2
    refine x_aload_n C dX7_isLong_131 rfl ?_
    refine m_getA C Y 3 (by decide) (by decide) wf_X7_13 dX7_isLong_132 ?_
    refine x_aload_n C dX7_isLong_135 rfl ?_
    refine m_get C Y 4 (by decide) (by decide) wf_X7_126 dX7_isLong_136 ?_
    refine x_iconst (v := 2) C dX7_isLong_139 (by decide) ?_
    refine x_isub C dX7_isLong_140 ?_
    refine m_ildN C Y 3 (n - 2) (by decide) dX7_isLong_141 (by rw [hs, show (2 : Int32) = nI 2 from rfl, pk_sub (by omega)]) (by simp only [m_len]; omega) ?_
    refine x_iload_n C dX7_isLong_142 rfl ?_
    refine x_sipush (v := 255) C dX7_isLong_143 (by decide) ?_
    refine x_iand C dX7_isLong_146 ?_
    refine x_icmp_ne (tgt := 154) C dX7_isLong_147 (by decide) (fun c147 => ?_) (fun c147 => ?_)
    · skip
      refine x_iconst (v := 0) C dX7_isLong_154 (by decide) ?_
      refine m_zret C E dX7_isLong_155 (by decide) ?_
      first | exact ⟨bI_vt ⟨a1, a2, a3, a4, a5, a6, a7, a8, c147⟩, rfl⟩ | exact ⟨bI_vf (fun q => c147 q.2.2.2.2.2.2.2.2), rfl⟩
    · skip
      refine x_iconst (v := 1) C dX7_isLong_150 (by decide) ?_
      refine x_goto (tgt := 155) C dX7_isLong_151 (by decide) ?_
      refine m_zret C E dX7_isLong_155 (by decide) ?_
      first | exact ⟨bI_vt ⟨a1, a2, a3, a4, a5, a6, a7, a8, c147⟩, rfl⟩ | exact ⟨bI_vf (fun q => c147 q.2.2.2.2.2.2.2.2), rfl⟩
  have T106 : 9 ≤ n ∧ S.a 3 0 = 104 ∧ ¬ S.a 3 1 < 3 ∧ S.a 3 1 ≤ 252 ∧ S.a 3 2 = S.a 3 1 ∧ S.a 3 3 = 104 ∧ nI n = S.a 3 1 + 6 ∧ S.a 3 (n - 1) = 22 → ∀ (t b : Nat), b + t = n - 2 → 4 ≤ b → X z 0 0 (MA M S) 106 [some (.ref M.o), some (.int (sumF (S.a 3) 4 b)), some (.int (nI b))] [] := by
    intro H t
    have h9 := H.1
    have e2 : S.i 4 - 2 = nI (n - 2) := by rw [hs, show (2 : Int32) = nI 2 from rfl, pk_sub (by omega)]
    induction t with
    | zero =>
      intro b hb h4
      obtain rfl : b = n - 2 := by omega
      refine x_iload_n C dX7_isLong_106 rfl ?_
      refine x_aload_n C dX7_isLong_107 rfl ?_
      refine m_get C Y 4 (by decide) (by decide) wf_X7_126 dX7_isLong_108 ?_
      refine x_iconst (v := 2) C dX7_isLong_111 (by decide) ?_
      refine x_isub C dX7_isLong_112 ?_
      rw [e2]
      refine x_icmp_ge (tgt := 131) C dX7_isLong_113 (by decide) (fun c113 => ?_) (fun c113 => absurd c113 (not_not_intro (Int32.le_refl _)))
      exact T131 _ rfl H
    | succ t ih =>
      intro b hb h4
      refine x_iload_n C dX7_isLong_106 rfl ?_
      refine x_aload_n C dX7_isLong_107 rfl ?_
      refine m_get C Y 4 (by decide) (by decide) wf_X7_126 dX7_isLong_108 ?_
      refine x_iconst (v := 2) C dX7_isLong_111 (by decide) ?_
      refine x_isub C dX7_isLong_112 ?_
      rw [e2]
      refine x_icmp_ge (tgt := 131) C dX7_isLong_113 (by decide) (fun c113 => absurd c113 (nI_ge (show b < n - 2 by omega) (by omega))) (fun c113 => ?_)
      refine x_iload_n C dX7_isLong_116 rfl ?_
      refine x_aload_n C dX7_isLong_117 rfl ?_
      refine m_getA C Y 3 (by decide) (by decide) wf_X7_13 dX7_isLong_118 ?_
      refine x_iload_n C dX7_isLong_121 rfl ?_
      refine m_ildN C Y 3 (b) (by decide) dX7_isLong_122 (by simp only [nI_lit, nI_add, pk_mul]) (by simp only [m_len]; omega) ?_
      refine x_iadd C dX7_isLong_123 ?_
      rw [← sumF_s (S.a 3) h4]
      refine x_istore_nE (L' := [some _, some _, some _]) C dX7_isLong_124 (by rw [hn]; decide) rfl ?_
      refine x_iincE (v := nI (b + 1)) (L' := [some _, some _, some _]) C dX7_isLong_125 rfl (nI_1 b) (by rw [hn]; decide) rfl ?_
      refine x_goto (tgt := 106) C dX7_isLong_128 (by decide) ?_
      exact ih (b + 1) (by omega) (by omega)
  refine x_aload_n C dX7_isLong_0 rfl ?_
  refine m_get C Y 4 (by decide) (by decide) wf_X7_126 dX7_isLong_1 ?_
  refine x_bipush (v := 9) C dX7_isLong_4 (by decide) ?_
  refine x_icmp_lt (tgt := 100) C dX7_isLong_6 (by decide) (fun c6 => ?_) (fun c6 => ?_)
  · skip
    refine x_iconst (v := 0) C dX7_isLong_100 (by decide) ?_
    refine m_zret C E dX7_isLong_101 (by decide) ?_
    first | exact ⟨bI_vf (fun q => i9.mp c6 q.1), rfl⟩ | exact ⟨bI_vf (fun q => c17 q.2.1), rfl⟩ | exact ⟨bI_vf (fun q => q.2.2.1 c27), rfl⟩ | exact ⟨bI_vf (fun q => (ex _).mp c39 q.2.2.2.1), rfl⟩ | exact ⟨bI_vf (fun q => c54 q.2.2.2.2.1), rfl⟩ | exact ⟨bI_vf (fun q => c65 q.2.2.2.2.2.1), rfl⟩ | exact ⟨bI_vf (fun q => c81 (hs.trans q.2.2.2.2.2.2.1)), rfl⟩ | exact ⟨bI_vf (fun q => c97 q.2.2.2.2.2.2.2.1), rfl⟩
  · skip
    have g6 := Classical.not_not.mp (fun q => c6 (i9.mpr q))
    refine x_aload_n C dX7_isLong_9 rfl ?_
    refine m_getA C Y 3 (by decide) (by decide) wf_X7_13 dX7_isLong_10 ?_
    refine x_iconst (v := 0) C dX7_isLong_13 (by decide) ?_
    refine m_ildN C Y 3 (0) (by decide) dX7_isLong_14 (by simp only [nI_lit, nI_add, pk_mul]) (by simp only [m_len]; omega) ?_
    refine x_bipush (v := 104) C dX7_isLong_15 (by decide) ?_
    refine x_icmp_ne (tgt := 100) C dX7_isLong_17 (by decide) (fun c17 => ?_) (fun c17 => ?_)
    · skip
      refine x_iconst (v := 0) C dX7_isLong_100 (by decide) ?_
      refine m_zret C E dX7_isLong_101 (by decide) ?_
      first | exact ⟨bI_vf (fun q => i9.mp c6 q.1), rfl⟩ | exact ⟨bI_vf (fun q => c17 q.2.1), rfl⟩ | exact ⟨bI_vf (fun q => q.2.2.1 c27), rfl⟩ | exact ⟨bI_vf (fun q => (ex _).mp c39 q.2.2.2.1), rfl⟩ | exact ⟨bI_vf (fun q => c54 q.2.2.2.2.1), rfl⟩ | exact ⟨bI_vf (fun q => c65 q.2.2.2.2.2.1), rfl⟩ | exact ⟨bI_vf (fun q => c81 (hs.trans q.2.2.2.2.2.2.1)), rfl⟩ | exact ⟨bI_vf (fun q => c97 q.2.2.2.2.2.2.2.1), rfl⟩
    · skip
      refine x_aload_n C dX7_isLong_20 rfl ?_
      refine m_getA C Y 3 (by decide) (by decide) wf_X7_13 dX7_isLong_21 ?_
      refine x_iconst (v := 1) C dX7_isLong_24 (by decide) ?_
      refine m_ildN C Y 3 (1) (by decide) dX7_isLong_25 (by simp only [nI_lit, nI_add, pk_mul]) (by simp only [m_len]; omega) ?_
      refine x_iconst (v := 3) C dX7_isLong_26 (by decide) ?_
      refine x_icmp_lt (tgt := 100) C dX7_isLong_27 (by decide) (fun c27 => ?_) (fun c27 => ?_)
      · skip
        refine x_iconst (v := 0) C dX7_isLong_100 (by decide) ?_
        refine m_zret C E dX7_isLong_101 (by decide) ?_
        first | exact ⟨bI_vf (fun q => i9.mp c6 q.1), rfl⟩ | exact ⟨bI_vf (fun q => c17 q.2.1), rfl⟩ | exact ⟨bI_vf (fun q => q.2.2.1 c27), rfl⟩ | exact ⟨bI_vf (fun q => (ex _).mp c39 q.2.2.2.1), rfl⟩ | exact ⟨bI_vf (fun q => c54 q.2.2.2.2.1), rfl⟩ | exact ⟨bI_vf (fun q => c65 q.2.2.2.2.2.1), rfl⟩ | exact ⟨bI_vf (fun q => c81 (hs.trans q.2.2.2.2.2.2.1)), rfl⟩ | exact ⟨bI_vf (fun q => c97 q.2.2.2.2.2.2.2.1), rfl⟩
      · skip
        refine x_aload_n C dX7_isLong_30 rfl ?_
        refine m_getA C Y 3 (by decide) (by decide) wf_X7_13 dX7_isLong_31 ?_
        refine x_iconst (v := 1) C dX7_isLong_34 (by decide) ?_
        refine m_ildN C Y 3 (1) (by decide) dX7_isLong_35 (by simp only [nI_lit, nI_add, pk_mul]) (by simp only [m_len]; omega) ?_
        refine x_sipush (v := 252) C dX7_isLong_36 (by decide) ?_
        refine x_icmp_gt (tgt := 100) C dX7_isLong_39 (by decide) (fun c39 => ?_) (fun c39 => ?_)
        · skip
          refine x_iconst (v := 0) C dX7_isLong_100 (by decide) ?_
          refine m_zret C E dX7_isLong_101 (by decide) ?_
          first | exact ⟨bI_vf (fun q => i9.mp c6 q.1), rfl⟩ | exact ⟨bI_vf (fun q => c17 q.2.1), rfl⟩ | exact ⟨bI_vf (fun q => q.2.2.1 c27), rfl⟩ | exact ⟨bI_vf (fun q => (ex _).mp c39 q.2.2.2.1), rfl⟩ | exact ⟨bI_vf (fun q => c54 q.2.2.2.2.1), rfl⟩ | exact ⟨bI_vf (fun q => c65 q.2.2.2.2.2.1), rfl⟩ | exact ⟨bI_vf (fun q => c81 (hs.trans q.2.2.2.2.2.2.1)), rfl⟩ | exact ⟨bI_vf (fun q => c97 q.2.2.2.2.2.2.2.1), rfl⟩
        · skip
          refine x_aload_n C dX7_isLong_42 rfl ?_
          refine m_getA C Y 3 (by decide) (by decide) wf_X7_13 dX7_isLong_43 ?_
          refine x_iconst (v := 2) C dX7_isLong_46 (by decide) ?_
          refine m_ildN C Y 3 (2) (by decide) dX7_isLong_47 (by simp only [nI_lit, nI_add, pk_mul]) (by simp only [m_len]; omega) ?_
          refine x_aload_n C dX7_isLong_48 rfl ?_
          refine m_getA C Y 3 (by decide) (by decide) wf_X7_13 dX7_isLong_49 ?_
          refine x_iconst (v := 1) C dX7_isLong_52 (by decide) ?_
          refine m_ildN C Y 3 (1) (by decide) dX7_isLong_53 (by simp only [nI_lit, nI_add, pk_mul]) (by simp only [m_len]; omega) ?_
          refine x_icmp_ne (tgt := 100) C dX7_isLong_54 (by decide) (fun c54 => ?_) (fun c54 => ?_)
          · skip
            refine x_iconst (v := 0) C dX7_isLong_100 (by decide) ?_
            refine m_zret C E dX7_isLong_101 (by decide) ?_
            first | exact ⟨bI_vf (fun q => i9.mp c6 q.1), rfl⟩ | exact ⟨bI_vf (fun q => c17 q.2.1), rfl⟩ | exact ⟨bI_vf (fun q => q.2.2.1 c27), rfl⟩ | exact ⟨bI_vf (fun q => (ex _).mp c39 q.2.2.2.1), rfl⟩ | exact ⟨bI_vf (fun q => c54 q.2.2.2.2.1), rfl⟩ | exact ⟨bI_vf (fun q => c65 q.2.2.2.2.2.1), rfl⟩ | exact ⟨bI_vf (fun q => c81 (hs.trans q.2.2.2.2.2.2.1)), rfl⟩ | exact ⟨bI_vf (fun q => c97 q.2.2.2.2.2.2.2.1), rfl⟩
          · skip
            refine x_aload_n C dX7_isLong_57 rfl ?_
            refine m_getA C Y 3 (by decide) (by decide) wf_X7_13 dX7_isLong_58 ?_
            refine x_iconst (v := 3) C dX7_isLong_61 (by decide) ?_
            refine m_ildN C Y 3 (3) (by decide) dX7_isLong_62 (by simp only [nI_lit, nI_add, pk_mul]) (by simp only [m_len]; omega) ?_
            refine x_bipush (v := 104) C dX7_isLong_63 (by decide) ?_
            refine x_icmp_ne (tgt := 100) C dX7_isLong_65 (by decide) (fun c65 => ?_) (fun c65 => ?_)
            · skip
              refine x_iconst (v := 0) C dX7_isLong_100 (by decide) ?_
              refine m_zret C E dX7_isLong_101 (by decide) ?_
              first | exact ⟨bI_vf (fun q => i9.mp c6 q.1), rfl⟩ | exact ⟨bI_vf (fun q => c17 q.2.1), rfl⟩ | exact ⟨bI_vf (fun q => q.2.2.1 c27), rfl⟩ | exact ⟨bI_vf (fun q => (ex _).mp c39 q.2.2.2.1), rfl⟩ | exact ⟨bI_vf (fun q => c54 q.2.2.2.2.1), rfl⟩ | exact ⟨bI_vf (fun q => c65 q.2.2.2.2.2.1), rfl⟩ | exact ⟨bI_vf (fun q => c81 (hs.trans q.2.2.2.2.2.2.1)), rfl⟩ | exact ⟨bI_vf (fun q => c97 q.2.2.2.2.2.2.2.1), rfl⟩
            · skip
              refine x_aload_n C dX7_isLong_68 rfl ?_
              refine m_get C Y 4 (by decide) (by decide) wf_X7_126 dX7_isLong_69 ?_
              refine x_aload_n C dX7_isLong_72 rfl ?_
              refine m_getA C Y 3 (by decide) (by decide) wf_X7_13 dX7_isLong_73 ?_
              refine x_iconst (v := 1) C dX7_isLong_76 (by decide) ?_
              refine m_ildN C Y 3 (1) (by decide) dX7_isLong_77 (by simp only [nI_lit, nI_add, pk_mul]) (by simp only [m_len]; omega) ?_
              refine x_bipush (v := 6) C dX7_isLong_78 (by decide) ?_
              refine x_iadd C dX7_isLong_80 ?_
              refine x_icmp_ne (tgt := 100) C dX7_isLong_81 (by decide) (fun c81 => ?_) (fun c81 => ?_)
              · skip
                refine x_iconst (v := 0) C dX7_isLong_100 (by decide) ?_
                refine m_zret C E dX7_isLong_101 (by decide) ?_
                first | exact ⟨bI_vf (fun q => i9.mp c6 q.1), rfl⟩ | exact ⟨bI_vf (fun q => c17 q.2.1), rfl⟩ | exact ⟨bI_vf (fun q => q.2.2.1 c27), rfl⟩ | exact ⟨bI_vf (fun q => (ex _).mp c39 q.2.2.2.1), rfl⟩ | exact ⟨bI_vf (fun q => c54 q.2.2.2.2.1), rfl⟩ | exact ⟨bI_vf (fun q => c65 q.2.2.2.2.2.1), rfl⟩ | exact ⟨bI_vf (fun q => c81 (hs.trans q.2.2.2.2.2.2.1)), rfl⟩ | exact ⟨bI_vf (fun q => c97 q.2.2.2.2.2.2.2.1), rfl⟩
              · skip
                refine x_aload_n C dX7_isLong_84 rfl ?_
                refine m_getA C Y 3 (by decide) (by decide) wf_X7_13 dX7_isLong_85 ?_
                refine x_aload_n C dX7_isLong_88 rfl ?_
                refine m_get C Y 4 (by decide) (by decide) wf_X7_126 dX7_isLong_89 ?_
                refine x_iconst (v := 1) C dX7_isLong_92 (by decide) ?_
                refine x_isub C dX7_isLong_93 ?_
                refine m_ildN C Y 3 (n - 1) (by decide) dX7_isLong_94 (by rw [hs, show (1 : Int32) = nI 1 from rfl, pk_sub (by omega)]) (by simp only [m_len]; omega) ?_
                refine x_bipush (v := 22) C dX7_isLong_95 (by decide) ?_
                refine x_icmp_eq (tgt := 102) C dX7_isLong_97 (by decide) (fun c97 => ?_) (fun c97 => ?_)
                · skip
                  refine x_iconst (v := 0) C dX7_isLong_102 (by decide) ?_
                  refine x_istore_nE (L' := [some _, some _, none]) C dX7_isLong_103 (by rw [hn]; decide) rfl ?_
                  refine x_iconst (v := 4) C dX7_isLong_104 (by decide) ?_
                  refine x_istore_nE (L' := [some _, some _, some _]) C dX7_isLong_105 (by rw [hn]; decide) rfl ?_
                  exact T106 ⟨g6, c17, c27, Classical.not_not.mp (fun q => c39 ((ex _).mpr q)), c54, c65, hs.symm.trans c81, c97⟩ (n - 6) 4 (by omega) (by omega)
                · skip
                  refine x_iconst (v := 0) C dX7_isLong_100 (by decide) ?_
                  refine m_zret C E dX7_isLong_101 (by decide) ?_
                  first | exact ⟨bI_vf (fun q => i9.mp c6 q.1), rfl⟩ | exact ⟨bI_vf (fun q => c17 q.2.1), rfl⟩ | exact ⟨bI_vf (fun q => q.2.2.1 c27), rfl⟩ | exact ⟨bI_vf (fun q => (ex _).mp c39 q.2.2.2.1), rfl⟩ | exact ⟨bI_vf (fun q => c54 q.2.2.2.2.1), rfl⟩ | exact ⟨bI_vf (fun q => c65 q.2.2.2.2.2.1), rfl⟩ | exact ⟨bI_vf (fun q => c81 (hs.trans q.2.2.2.2.2.2.1)), rfl⟩ | exact ⟨bI_vf (fun q => c97 q.2.2.2.2.2.2.2.1), rfl⟩
end Frames
end
