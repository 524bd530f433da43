/-! The model's side of a call, told weakly: it ends, MH holds, who is there and the addresses stay. -/
section Mod
variable {w : Wd} {M : MW} {S : MS}
theorem SM.s0 (S : MS) (v : Int32) : SM S (S.si 0 v) := ⟨fun _ => rfl, fun _ => rfl⟩
def MK (S S' : MS) : Prop := MH S' ∧ SM S S'
theorem MK.s0 (h : MH S) (v : Int32) : MK S (S.si 0 v) := ⟨h.s0 v, SM.s0 S v⟩
theorem v_type (hW : Wm w M) (h : MH S) (b : Int64) (n : Int32) : ∃ v S', TF w M yX7_type cX7_type 5 (some .int) 1 [.long b, .int n] S (some (.int v)) S' ∧ MK S S' := by
  by_cases g : (1 : Int32) ≤ n ∧ n ≤ 8
  · obtain ⟨m, hm, rfl⟩ := nI_of (x := n) (Int32.not_lt.mpr (Int32.le_trans (by decide) g.1))
    have hm8 : m ≤ 8 := Nat.le_of_not_lt (fun q => absurd (nI_lt q hm) (Int32.not_lt.mpr g.2))
    have hm1 : 1 ≤ m := Nat.le_of_not_lt (fun q => absurd (nI_lt q (by decide)) (Int32.not_lt.mpr g.1))
    obtain ⟨s, s1, s2⟩ := h.1.buf
    by_cases q : s + m ≤ 300
    · exact ⟨_, _, s_type_t hW b m s ⟨hm1, hm8⟩ s1 q, h.type s1 q, fun _ => ty_a (by decide) m s _, fun _ => ty_a (by decide) m s _⟩
    · exact ⟨_, _, s_type_u hW b m s ⟨hm1, hm8⟩ s1 s2 q, MK.s0 h 2⟩
  · exact ⟨_, _, s_type_f hW b n g, MK.s0 h 1⟩
theorem v_keep (hW : Wm w M) (h : MH S) (n : Int32) : ∃ S', TF w M yX7_keep cX7_keep 2 none 1 [.int n] S none S' ∧ MK S S' := by
  refine ⟨_, s_keep hW n, ?_⟩
  split
  · rename_i g
    obtain ⟨s, s1, s2⟩ := h.1.buf
    obtain ⟨m, hm, rfl⟩ := nI_of (Int32.not_lt.mpr g.1)
    have h2 := g.2
    rw [s1] at h2
    have hms : m ≤ s := (nI_leI hm (by omega)).mp h2
    exact ⟨h.keep (Nat.le_trans hms s2), fun _ => rfl, fun _ => rfl⟩
  · exact MK.s0 h 1
theorem v_typed (hW : Wm w M) (h : MH S) (i : Int32) : ∃ v S', TF w M yX7_typed cX7_typed 2 (some .int) 1 [.int i] S (some (.int v)) S' ∧ MK S S' := by
  obtain ⟨s, s1, s2⟩ := h.1.buf
  exact ⟨_, _, s_typed hW s s1 s2 i, MK.s0 h _⟩
theorem v_page (hW : Wm w M) (h : MH S) (k i : Int32) : ∃ v S', TF w M yX7_page cX7_page 4 (some .int) 2 [.int k, .int i] S (some (.int v)) S' ∧ MK S S' := by
  obtain ⟨s, s1, s2⟩ := h.1.buf
  by_cases g : q_page S k i ∧ s ≤ 60
  · obtain ⟨g1, g2⟩ := g
    unfold q_page at g1
    obtain ⟨j, hj, rfl⟩ := nI_of (Int32.not_lt.mpr g1.1.1.1)
    obtain ⟨t, ht, rfl⟩ := nI_of (Int32.not_lt.mpr g1.2.1)
    have hj2 : j < 12 := Nat.lt_succ_of_le ((nI_leI hj (by decide)).mp g1.1.1.2)
    have ht2 : t < 3 := Nat.lt_succ_of_le ((nI_leI ht (by decide)).mp g1.2.2)
    have g3 := g1.1.2
    rw [nI_clamp hj] at g3
    exact ⟨_, _, s_page_t hW j t s hj2 ht2 g3 s1 g2, h.page g2, fun _ => page_a (by decide) (by decide), fun _ => page_a (by decide) (by decide)⟩
  · exact ⟨_, _, s_page_x hW k i s s1 s2 g, MK.s0 h _⟩
theorem v_state (hW : Wm w M) (h : MH S) (k x : Int32) : ∃ v S', TF w M yX7_state cX7_state 3 (some .int) 1 [.int k, .int x] S (some (.int v)) S' ∧ MK S S' := by
  by_cases g : ((0 : Int32) ≤ k ∧ k ≤ 11) ∧ ((0 : Int32) ≤ x ∧ x ≤ 6)
  · obtain ⟨j, hj, rfl⟩ := nI_of (Int32.not_lt.mpr g.1.1)
    have hj2 : j < 12 := Nat.lt_succ_of_le ((nI_leI hj (by decide)).mp g.1.2)
    by_cases q : S.a 10 j = 0
    · exact ⟨_, _, s_state_n hW j hj2 x g.2 q, MK.s0 h 0⟩
    · obtain ⟨t, ht, rfl⟩ := nI_of (Int32.not_lt.mpr g.2.1)
      have ht2 : t ≤ 6 := (nI_leI ht (by decide)).mp g.2.2
      rcases (show t = 0 ∨ t = 1 ∨ t = 2 ∨ t = 3 ∨ t = 4 ∨ t = 5 ∨ t = 6 by omega) with rfl | rfl | rfl | rfl | rfl | rfl | rfl
      · exact ⟨_, _, s_state_0 hW j hj2 q, MK.s0 h 0⟩
      · exact ⟨_, _, s_state_1 hW j hj2 q, MK.s0 h 0⟩
      · exact ⟨_, _, s_state_2 hW j hj2 q, MK.s0 h 0⟩
      · exact ⟨_, _, s_state_3 hW j hj2 q, MK.s0 h 0⟩
      · exact ⟨_, _, s_state_4 hW j hj2 q, MK.s0 h 0⟩
      · exact ⟨_, _, s_state_5 hW j hj2 q, MK.s0 h 0⟩
      · exact ⟨_, _, s_state_6 hW j hj2 q, MK.s0 h 0⟩
  · exact ⟨_, _, s_state_f hW k x g, MK.s0 h 1⟩
theorem v_send (hW : Wm w M) (h : MH S) : ∃ v S', TF w M yX7_send cX7_send 2 (some .int) 4 [] S (some (.int v)) S' ∧ MK S S' := by
  obtain ⟨s, s1, s2⟩ := h.1.buf
  exact ⟨_, _, s_send hW h.1.mi.2.1 s s1 s2, h.send, fun _ => send_a rfl (by decide) (by decide), fun _ => send_a rfl (by decide) (by decide)⟩
theorem v_search (hW : Wm w M) (h : MH S) : ∃ v S', TF w M yX7_search cX7_search 3 (some .int) 6 [] S (some (.int v)) S' ∧ MK S S' := by
  refine ⟨_, _, g_search hW h.1, h.search, ?_⟩
  obtain ⟨S', e, -⟩ := search_ok h.1.mi.1 h.1.mi.2.1 h.1.ds
  rw [search_eq e]
  have hz : ∀ q j, pz q = false → S'.a q j = S.a q j := fun q j hq => by
    rw [PRo_pz hq _ _ _ _ e]
    unfold f_sr0
    rw [ff_a _ (pz_ne hq rfl)]
    rfl
  exact ⟨fun j => hz 10 j rfl, fun j => hz 12 j rfl⟩
theorem v_found (hW : Wm w M) (h : MH S) (k x : Int32) : ∃ v S', TF w M yX7_found cX7_found 3 (some .int) 1 [.int k, .int x] S (some (.int v)) S' ∧ MK S S' := by
  obtain ⟨f, f1, f2⟩ := h.1.fnd
  exact ⟨_, _, s_found hW f f1 (by omega) k x, MK.s0 h _⟩
theorem ro_sm {t q : Nat} : ∀ {S : MS}, SM S (f_ro t q S).2 := by
  induction t generalizing q with
  | zero => intro S; exact ⟨fun _ => rfl, fun _ => rfl⟩
  | succ t ih =>
    intro S
    have h1 : SM S (f_putS S (f_roC q)) := ⟨fun _ => putS_bz rfl (by decide), fun _ => putS_bz rfl (by decide)⟩
    rw [f_ro]
    generalize f_putS S (f_roC q) = S1 at h1 ⊢
    have h2 : SM S (f_da S1 5 (f_m S1)) := h1.tr ⟨fun _ => da_a S1 5 _ rfl (by decide), fun _ => da_a S1 5 _ rfl (by decide)⟩
    generalize f_da S1 5 (f_m S1) = S2 at h2 ⊢
    split
    · split
      · exact h2.tr ⟨fun _ => rfl, fun _ => rfl⟩
      · split
        · exact h2
        · exact h2.tr ih
    · exact h1.tr ⟨fun _ => rfl, fun _ => rfl⟩
theorem readOut_sm {k : Nat} : SM S (f_readOut S k).2 := by
  have h00 : SM S (f_rm ((((S.si 0 0).si 23 0).si 34 0).si 36 (-1)) k 8) := ⟨fun _ => (rm_a _ k (by decide) 8).trans rfl, fun _ => (rm_a _ k (by decide) 8).trans rfl⟩
  have h0 : SM S (f_ro0 S k) := by
    unfold f_ro0
    exact h00.tr (putM_sm _)
  unfold f_readOut
  generalize f_ro0 S k = S1 at h0 ⊢
  split
  · exact (h0.tr ((show SM S1 (f_putS S1 64) from ⟨fun _ => putS_bz rfl (by decide), fun _ => putS_bz rfl (by decide)⟩).tr (putM_sm _))).tr ro_sm
  · exact h0
theorem v_readOut (hW : Wm w M) (h : MH S) (k : Int32) : ∃ v S', TF w M yX7_readOut cX7_readOut 4 (some .int) 5 [.int k] S (some (.int v)) S' ∧ MK S S' := by
  obtain ⟨f, f1, f2⟩ := h.1.fnd
  by_cases g : (0 : Int32) ≤ k ∧ k ≤ S.i 20 - 1
  · obtain ⟨j, hj, rfl⟩ := nI_of (Int32.not_lt.mpr g.1)
    have h2 := g.2
    rw [f1] at h2
    have hf0 : 1 ≤ f := Nat.le_of_not_lt (fun q => by
      obtain rfl : f = 0 := by omega
      exact absurd (Int32.le_trans g.1 h2) (by decide))
    rw [show nI f - 1 = nI (f - 1) from nI_sub' hf0] at h2
    have hj2 : j ≤ f - 1 := (nI_leI hj (by omega)).mp h2
    exact ⟨_, _, g_readOut hW h j f f1 (by omega) f2, h.readOut, readOut_sm⟩
  · exact ⟨_, _, s_readOut_f hW k g, MK.s0 h 1⟩
theorem v_decode (hW : Wm w M) (h : MH S) : ∃ v S', TF w M yX7_decode cX7_decode 2 (some .int) 5 [] S (some (.int v)) S' ∧ MK S S' := by
  obtain ⟨s, s1, s2⟩ := h.1.buf
  exact ⟨_, _, g_decode hW h s s1 s2, h.decode s, (SM.s0 S 0).tr ⟨fun _ => da_a _ 1 _ rfl (by decide), fun _ => da_a _ 1 _ rfl (by decide)⟩⟩
theorem v_place (hW : Wm w M) (h : MH S) : ∃ v S', TF w M yX7_place cX7_place 1 (some .int) 0 [] S (some (.int v)) S' ∧ MK S S' := ⟨_, _, s_place hW, MK.s0 h 0⟩
theorem v_clear (hW : Wm w M) (h : MH S) : ∃ v S', TF w M yX7_clear cX7_clear 2 (some .int) 0 [] S (some (.int v)) S' ∧ MK S S' := ⟨_, _, s_clear hW, h.clear, fun _ => rfl, fun _ => rfl⟩
theorem v_count (hW : Wm w M) (h : MH S) (x : Int32) : ∃ v S', TF w M yX7_count cX7_count 4 (some .int) 1 [.int x] S (some (.int v)) S' ∧ MK S S' := by
  by_cases g : (0 : Int32) ≤ x ∧ x ≤ 5
  · exact ⟨_, _, s_count_t hW x g, MK.s0 h 0⟩
  · exact ⟨_, _, s_count_f hW x g, MK.s0 h 1⟩
theorem v_rec {S : MS} (h : MH S) {i : Int32} (g : q_rec S i) : ∃ r j, S.i 23 = nI r ∧ r ≤ 100 ∧ j < r ∧ i = nI j ∧ RO S j := by
  obtain ⟨r, l1, l2, l3⟩ := h.list
  obtain ⟨j, hj, rfl⟩ := nI_of (Int32.not_lt.mpr g.1)
  have h2 := g.2
  rw [l1] at h2
  have hf0 : 1 ≤ r := Nat.le_of_not_lt (fun q => by
    obtain rfl : r = 0 := by omega
    exact absurd (Int32.le_trans g.1 h2) (by decide))
  rw [show nI r - 1 = nI (r - 1) from nI_sub' hf0] at h2
  have hj2 : j ≤ r - 1 := (nI_leI hj (by omega)).mp h2
  exact ⟨r, j, l1, l2, by omega, rfl, l3 j (by omega)⟩
theorem v_record (hW : Wm w M) (h : MH S) (i x : Int32) : ∃ v S', TF w M yX7_record cX7_record 4 (some .long) 1 [.int i, .int x] S (some (.long v)) S' ∧ MK S S' := by
  by_cases g : q_record S i x
  · obtain ⟨r, j, e1, e2, e3, rfl, ⟨nv, n1, n2⟩, -⟩ := v_rec h g.1
    obtain ⟨t, ht, rfl⟩ := nI_of g.2.1
    have h2 := g.2.2
    rw [nI_clamp (by omega), n1, show (7 : Int32) = nI 7 from rfl, nI_add] at h2
    have ht2 : t < 7 + nv := (nI_ltI ht (by omega)).mp h2
    exact ⟨_, _, g_record hW h r j t nv e1 e2 e3 n1 n2 ht2, MK.s0 h 0⟩
  · obtain ⟨r, l1, l2, -⟩ := h.list
    exact ⟨_, _, s_record_x hW r l1 l2 i x g, MK.s0 h 1⟩
theorem v_text (hW : Wm w M) (h : MH S) (i x : Int32) : ∃ v S', TF w M yX7_text cX7_text 4 (some .int) 1 [.int i, .int x] S (some (.int v)) S' ∧ MK S S' := by
  by_cases g : q_text S i x
  · obtain ⟨r, j, e1, e2, e3, rfl, -, n, n1, n2, -⟩ := v_rec h g.1
    obtain ⟨t, ht, rfl⟩ := nI_of (Int32.not_lt.mpr g.2.1)
    have h2 := g.2.2
    rw [nI_clamp (by omega), n1] at h2
    have hf0 : 1 ≤ n := Nat.le_of_not_lt (fun q => by
      obtain rfl : n = 0 := by omega
      exact absurd (Int32.le_trans g.2.1 h2) (by decide))
    rw [show nI n - 1 = nI (n - 1) from nI_sub' hf0] at h2
    have ht2 : t ≤ n - 1 := (nI_leI ht (by omega)).mp h2
    exact ⟨_, _, g_text hW h r j t n e1 e2 e3 n1 n2 (by omega), MK.s0 h 0⟩
  · obtain ⟨r, l1, l2, -⟩ := h.list
    exact ⟨_, _, s_text_x hW r l1 l2 i x g, MK.s0 h 1⟩
end Mod
