/-! What is known of the machine besides: the throwables, texts, links in the nest, arrays of objects; the words of the law's own methods. -/
def exs : List String := ["java/lang/IllegalArgumentException", "java/lang/UnsupportedOperationException", "java/lang/IndexOutOfBoundsException"]
def decl : List String := ["java/lang/RuntimeException", "java/lang/Exception", Bundle.tN]
def exc : List String := ["java/lang/RuntimeException", "java/lang/Exception"]
def txts : List (Nat × String) := [(49, "n is not 1 .. 8"), (60, "the buffer would have more than 300 bytes"), (67, "the buffer has not so many bytes"), (74, "no such place"), (85, "no such meter"), (90, "the primary address or the ident is not as said"), (95, "maker, version or medium is not as said"), (103, "another meter has that secondary address"), (118, "no such meter or page"), (120, "the buffer has more than 60 bytes"), (129, "no such meter or what"), (154, "no such found one or byte"), (156, "no such found one"), (193, "no such record or what"), (201, "no such record or byte of a text"), (215, "no such what")]
def nst : List (String × Nat × MethodName) := [(RX6, 9, yX5_init), (RX6, 18, yX0_init), (RX0, 19, yX5_init), (RX6, 25, yX4_init), (RX1, 81, yX6_areDigits), (RX4, 27, yX3_init)]
def Gx (b : Nat) (U : State) (H : Heap) : Prop :=
  vx_Zq Bundle.tN "UNASSIGNED_STACK" Bundle.steD (fun q : Nat => b ≤ q) U H ∧ vx_Zq Bundle.tN "SUPPRESSED_SENTINEL" Bundle.listD (fun q : Nat => b ≤ q) U H ∧ (∀ E ∈ exs, va_Nw (.castable E E) U) ∧ (∀ E ∈ exs, ∀ F ∈ exs, E ≠ F → va_Nc E F U) ∧ ((∀ q ∈ txts, ∃ sa : Nat, vk_R RX6 q.1 q.2 sa U) ∧ ∀ n ∈ decl, va_Nw (.declares (Bundle.initS n)) U) ∧ (∀ q ∈ nst, va_Nw (.methodLinkNest q.1 q.2.1 q.2.2 RX6) U) ∧ va_AO RX2 U ∧ va_AO RX3 U ∧ va_AOA .int U
theorem Gx.warm {b : Nat} {u U : State} {H H1 : Heap} (hW : u.WarmedH U.vm) (hq : ∀ q : Nat, q < H.size → ¬ b ≤ q → H1[q]? = H[q]?) (g : Gx b u H) : Gx b U H1 := by
  obtain ⟨g1, g2, g3, g4, g5, g6, g7, g8, g9⟩ := g
  refine ⟨vx_Zq.moved hW.alike (g1.kept hq), vx_Zq.moved hW.alike (g2.kept hq), fun E h => va_Nw.warmC hW (g3 E h), fun E h F h' n => va_Nc.moved hW.alike (g4 E h F h' n), ⟨fun q h => ?_, fun n h => va_Nw.warmD hW (g5.2 n h)⟩, fun q h => va_Nw.warmM hW (g6 q h), va_AO.moved hW.alike g7, va_AO.moved hW.alike g8, va_AOA.moved hW.alike g9⟩
  obtain ⟨sa, hs⟩ := g5.1 q h
  exact ⟨sa, vk_R.warm hW hs⟩
theorem Gx.same {b : Nat} {u U : State} {H : Heap} (h : u.vm = U.vm) (g : Gx b u H) : Gx b U H := Gx.warm (by rw [← h]; exact State.WarmedH.refl u) (fun _ _ _ => rfl) g
/-- the world of the claim -/
def Wx (w : Wd) (c : Nat → ClassId) : Prop := Wc w c ∧ w.l.stackTraces = false ∧ w.G = Gx w.base ∧ (∃ t : Nat, w.tys[t]? = some (c 3, FieldType.object RX2)) ∧ (∃ t : Nat, w.tys[t]? = some (c 4, FieldType.object RX3)) ∧ ∃ t : Nat, w.tys[t]? = some (c 5, FieldType.array FieldType.int)
theorem lt_X6_9 : Cond.methodLinkNest RX6 9 yX5_init RX6 ∈ lw_tbl := List.mem_of_getElem? (i := 80) (by decide +kernel)
theorem lt_X6_18 : Cond.methodLinkNest RX6 18 yX0_init RX6 ∈ lw_tbl := List.mem_of_getElem? (i := 94) (by decide +kernel)
theorem lt_X0_19 : Cond.methodLinkNest RX0 19 yX5_init RX6 ∈ lw_tbl := List.mem_of_getElem? (i := 101) (by decide +kernel)
theorem lt_X6_25 : Cond.methodLinkNest RX6 25 yX4_init RX6 ∈ lw_tbl := List.mem_of_getElem? (i := 117) (by decide +kernel)
theorem lt_X1_81 : Cond.methodLinkNest RX1 81 yX6_areDigits RX6 ∈ lw_tbl := List.mem_of_getElem? (i := 362) (by decide +kernel)
theorem lt_X4_27 : Cond.methodLinkNest RX4 27 yX3_init RX6 ∈ lw_tbl := List.mem_of_getElem? (i := 379) (by decide +kernel)
theorem lt_s49 : Cond.stringRef RX6 49 "n is not 1 .. 8" ∈ lw_tbl := List.mem_of_getElem? (i := 553) (by decide +kernel)
theorem lt_s60 : Cond.stringRef RX6 60 "the buffer would have more than 300 bytes" ∈ lw_tbl := List.mem_of_getElem? (i := 590) (by decide +kernel)
theorem lt_s67 : Cond.stringRef RX6 67 "the buffer has not so many bytes" ∈ lw_tbl := List.mem_of_getElem? (i := 605) (by decide +kernel)
theorem lt_s74 : Cond.stringRef RX6 74 "no such place" ∈ lw_tbl := List.mem_of_getElem? (i := 624) (by decide +kernel)
theorem lt_s85 : Cond.stringRef RX6 85 "no such meter" ∈ lw_tbl := List.mem_of_getElem? (i := 642) (by decide +kernel)
theorem lt_s90 : Cond.stringRef RX6 90 "the primary address or the ident is not as said" ∈ lw_tbl := List.mem_of_getElem? (i := 644) (by decide +kernel)
theorem lt_s95 : Cond.stringRef RX6 95 "maker, version or medium is not as said" ∈ lw_tbl := List.mem_of_getElem? (i := 648) (by decide +kernel)
theorem lt_s103 : Cond.stringRef RX6 103 "another meter has that secondary address" ∈ lw_tbl := List.mem_of_getElem? (i := 658) (by decide +kernel)
theorem lt_s118 : Cond.stringRef RX6 118 "no such meter or page" ∈ lw_tbl := List.mem_of_getElem? (i := 713) (by decide +kernel)
theorem lt_s120 : Cond.stringRef RX6 120 "the buffer has more than 60 bytes" ∈ lw_tbl := List.mem_of_getElem? (i := 714) (by decide +kernel)
theorem lt_s129 : Cond.stringRef RX6 129 "no such meter or what" ∈ lw_tbl := List.mem_of_getElem? (i := 728) (by decide +kernel)
theorem lt_s154 : Cond.stringRef RX6 154 "no such found one or byte" ∈ lw_tbl := List.mem_of_getElem? (i := 744) (by decide +kernel)
theorem lt_s156 : Cond.stringRef RX6 156 "no such found one" ∈ lw_tbl := List.mem_of_getElem? (i := 752) (by decide +kernel)
theorem lt_s193 : Cond.stringRef RX6 193 "no such record or what" ∈ lw_tbl := List.mem_of_getElem? (i := 777) (by decide +kernel)
theorem lt_s201 : Cond.stringRef RX6 201 "no such record or byte of a text" ∈ lw_tbl := List.mem_of_getElem? (i := 794) (by decide +kernel)
theorem lt_s215 : Cond.stringRef RX6 215 "no such what" ∈ lw_tbl := List.mem_of_getElem? (i := 818) (by decide +kernel)
theorem lt_oX2 : Cond.arrayOver (.object RX2) ∈ lw_tbl := List.mem_of_getElem? (i := 99) (by decide +kernel)
theorem lt_oX3 : Cond.arrayOver (.object RX3) ∈ lw_tbl := List.mem_of_getElem? (i := 122) (by decide +kernel)
theorem lt_cIAE : Cond.castable "java/lang/IllegalArgumentException" "java/lang/IllegalArgumentException" ∈ lw_tbl := List.mem_of_getElem? (i := 514) (by decide +kernel)
theorem lt_dRuntimeException : Cond.declares (Bundle.initS "java/lang/RuntimeException") ∈ lw_tbl := List.mem_of_getElem? (i := 516) (by decide +kernel)
theorem lt_dException : Cond.declares (Bundle.initS "java/lang/Exception") ∈ lw_tbl := List.mem_of_getElem? (i := 518) (by decide +kernel)
theorem lt_dThrowable : Cond.declares (Bundle.initS "java/lang/Throwable") ∈ lw_tbl := List.mem_of_getElem? (i := 520) (by decide +kernel)
theorem lt_U : Cond.laysStatic Bundle.tN "UNASSIGNED_STACK" Bundle.steD ∈ lw_tbl := List.mem_of_getElem? (i := 539) (by decide +kernel)
theorem lt_N : Cond.laysStatic Bundle.tN "SUPPRESSED_SENTINEL" Bundle.listD ∈ lw_tbl := List.mem_of_getElem? (i := 541) (by decide +kernel)
theorem lt_cUOE : Cond.castable "java/lang/UnsupportedOperationException" "java/lang/UnsupportedOperationException" ∈ lw_tbl := List.mem_of_getElem? (i := 583) (by decide +kernel)
theorem lt_cIOOBE : Cond.castable "java/lang/IndexOutOfBoundsException" "java/lang/IndexOutOfBoundsException" ∈ lw_tbl := List.mem_of_getElem? (i := 617) (by decide +kernel)
theorem lt_oI : Cond.arrayOver (.array .int) ∈ lw_tbl := List.mem_of_getElem? (i := 665) (by decide +kernel)
def hL_type : List (Nat × Nat × Nat × Nat) := [(0, 11, 14, 13), (0, 11, 18, 15)]
theorem wo_L_type : Cond.codeWith yL_type cL_type 6 (some .int) hL_type ∈ gw := gw_at 505 (by decide +kernel) (by decide +kernel)
theorem mw_L_type : Mw gw yL_type cL_type 6 (some .int) hL_type 4 := ⟨wo_L_type, wz_L, by decide +kernel, by decide +kernel, by decide +kernel⟩
def hL_keep : List (Nat × Nat × Nat × Nat) := [(0, 5, 8, 13)]
theorem wo_L_keep : Cond.codeWith yL_keep cL_keep 3 (some .int) hL_keep ∈ gw := gw_at 600 (by decide +kernel) (by decide +kernel)
theorem mw_L_keep : Mw gw yL_keep cL_keep 3 (some .int) hL_keep 2 := ⟨wo_L_keep, wz_L, by decide +kernel, by decide +kernel, by decide +kernel⟩
def hL_typed : List (Nat × Nat × Nat × Nat) := [(0, 9, 12, 25)]
theorem wo_L_typed : Cond.codeWith yL_typed cL_typed 4 (some .int) hL_typed ∈ gw := gw_at 609 (by decide +kernel) (by decide +kernel)
theorem mw_L_typed : Mw gw yL_typed cL_typed 4 (some .int) hL_typed 3 := ⟨wo_L_typed, wz_L, by decide +kernel, by decide +kernel, by decide +kernel⟩
def hL_meter : List (Nat × Nat × Nat × Nat) := [(0, 13, 16, 25), (0, 13, 20, 13)]
theorem wo_L_meter : Cond.codeWith yL_meter cL_meter 8 (some .int) hL_meter ∈ gw := gw_at 634 (by decide +kernel) (by decide +kernel)
theorem mw_L_meter : Mw gw yL_meter cL_meter 8 (some .int) hL_meter 7 := ⟨wo_L_meter, wz_L, by decide +kernel, by decide +kernel, by decide +kernel⟩
def hL_remove : List (Nat × Nat × Nat × Nat) := [(0, 16, 19, 25)]
theorem wo_L_remove : Cond.codeWith yL_remove cL_remove 4 (some .int) hL_remove ∈ gw := gw_at 697 (by decide +kernel) (by decide +kernel)
theorem mw_L_remove : Mw gw yL_remove cL_remove 4 (some .int) hL_remove 3 := ⟨wo_L_remove, wz_L, by decide +kernel, by decide +kernel, by decide +kernel⟩
def hL_page : List (Nat × Nat × Nat × Nat) := [(0, 10, 13, 25), (0, 10, 17, 15)]
theorem wo_L_page : Cond.codeWith yL_page cL_page 5 (some .int) hL_page ∈ gw := gw_at 708 (by decide +kernel) (by decide +kernel)
theorem mw_L_page : Mw gw yL_page cL_page 5 (some .int) hL_page 4 := ⟨wo_L_page, wz_L, by decide +kernel, by decide +kernel, by decide +kernel⟩
def hL_state : List (Nat × Nat × Nat × Nat) := [(0, 10, 13, 25)]
theorem wo_L_state : Cond.codeWith yL_state cL_state 5 (some .int) hL_state ∈ gw := gw_at 723 (by decide +kernel) (by decide +kernel)
theorem mw_L_state : Mw gw yL_state cL_state 5 (some .int) hL_state 4 := ⟨wo_L_state, wz_L, by decide +kernel, by decide +kernel, by decide +kernel⟩
def hL_found : List (Nat × Nat × Nat × Nat) := [(0, 10, 13, 25)]
theorem wo_L_found : Cond.codeWith yL_found cL_found 5 (some .int) hL_found ∈ gw := gw_at 735 (by decide +kernel) (by decide +kernel)
theorem mw_L_found : Mw gw yL_found cL_found 5 (some .int) hL_found 4 := ⟨wo_L_found, wz_L, by decide +kernel, by decide +kernel, by decide +kernel⟩
def hL_readOut : List (Nat × Nat × Nat × Nat) := [(0, 9, 12, 25)]
theorem wo_L_readOut : Cond.codeWith yL_readOut cL_readOut 4 (some .int) hL_readOut ∈ gw := gw_at 747 (by decide +kernel) (by decide +kernel)
theorem mw_L_readOut : Mw gw yL_readOut cL_readOut 4 (some .int) hL_readOut 3 := ⟨wo_L_readOut, wz_L, by decide +kernel, by decide +kernel, by decide +kernel⟩
def hL_record : List (Nat × Nat × Nat × Nat) := [(0, 9, 12, 25)]
theorem wo_L_record : Cond.codeWith yL_record cL_record 5 (some .int) hL_record ∈ gw := gw_at 764 (by decide +kernel) (by decide +kernel)
theorem mw_L_record : Mw gw yL_record cL_record 5 (some .int) hL_record 4 := ⟨wo_L_record, wz_L, by decide +kernel, by decide +kernel, by decide +kernel⟩
def hL_text : List (Nat × Nat × Nat × Nat) := [(0, 10, 13, 25)]
theorem wo_L_text : Cond.codeWith yL_text cL_text 5 (some .int) hL_text ∈ gw := gw_at 785 (by decide +kernel) (by decide +kernel)
theorem mw_L_text : Mw gw yL_text cL_text 5 (some .int) hL_text 4 := ⟨wo_L_text, wz_L, by decide +kernel, by decide +kernel, by decide +kernel⟩
def hL_count : List (Nat × Nat × Nat × Nat) := [(0, 9, 12, 25)]
theorem wo_L_count : Cond.codeWith yL_count cL_count 4 (some .int) hL_count ∈ gw := gw_at 801 (by decide +kernel) (by decide +kernel)
theorem mw_L_count : Mw gw yL_count cL_count 4 (some .int) hL_count 3 := ⟨wo_L_count, wz_L, by decide +kernel, by decide +kernel, by decide +kernel⟩
