/-! MeterBusModel: decodeAll, decode. -/
def f_rl : Nat → MS → MS
  | 0, S => S
  | t + 1, S => if S.i 41 = 0 ∧ f_at S < f_e S then f_rl t (f_rcd S) else S
def f_da0 (S : MS) (q n : Nat) : MS := f_cp (((S.si 41 0).si 36 (-1)).si 37 0) 38 q n
def f_da1 (S : MS) (q n : Nat) : MS := if (f_fr (f_da0 S q n) n).1 = true then f_rl 300 ((f_fr (f_da0 S q n) n).2.si 40 19) else (f_fr (f_da0 S q n) n).2
def f_da (S : MS) (q n : Nat) : MS := if 0 < (f_da1 S q n).i 41 then ((f_da1 S q n).si 23 (S.i 23)).si 34 (S.i 34) else f_da1 S q n
section All
variable {w : Wd} {M : MW} {S : MS} {z : Fx} {post : Option Value → MS → Prop}
/-- the loop over the records, from pc 62 -/
theorem da_loop (hW : Wm w M) (C : Cx z RX7 cX7_decodeAll gw) (Y : Mty z M) (E : Ct z w gw yX7_decodeAll (some .int) 4 (40 * 4) (PM M post)) (hn : z.nL = 5) (L : List (Option Value)) (h0 : L[0]? = some (some (.ref M.o))) (R : MS) (kk : X z 0 0 (MA M R) 87 L []) (e : Nat) (he : e ≤ 256) :
    ∀ (t : Nat) (S : MS) (r tx a : Nat), WFd S → GR S e r tx a → 19 ≤ a → r ≤ 100 → tx ≤ 240 * r → e < a + t → f_rl t S = R → X z 0 0 (MA M S) 62 L [] := by
  intro t
  induction t with
  | zero => intro S r tx a _ g _ _ _ h; exact absurd g.2.2.1 (by omega)
  | succ t ih =>
    intro S r tx a hd g ha hr ht hlt hR
    obtain ⟨e1, e2, hp⟩ := g.at (by omega)
    have c40 : nI e ≤ nI a ↔ ¬ a < e := by have := g.2.2.1; rw [nI_leI (by omega) (by omega)]; omega
    rw [f_rl, e1, e2] at hR
    by_cases h1 : S.i 41 = 0 ∧ a < e
    · rw [if_pos h1] at hR
      have ho := s_oneRecord hW hp hd (by omega) (by rw [g.r hr]; exact g.2.2.2.1) (by rw [g.r hr]; exact hr) (by rw [g.tx (by omega)]; exact g.2.2.2.2) (by rw [g.r hr, g.tx (by omega)]; omega) h1.1
      obtain ⟨⟨a1, r1, tx1, g1, g2, g3, g4⟩, g5⟩ := RR.rcd g h1.1 he ha h1.2 hr ht
      have ih2 := ih (f_rcd S) r1 tx1 a1 (hd.same g5) g1 (by omega) g3 g4 (by omega) hR
      refine x_aload_n C dX7_decodeAll_62 h0 ?_
      refine m_get C Y 41 (by decide) (by decide) wf_X7_204 dX7_decodeAll_63 ?_
      refine x_if_ne (tgt := 87) C dX7_decodeAll_66 (by decide) (fun c66 => absurd c66 (not_not_intro h1.1)) (fun c66 => ?_)
      refine x_aload_n C dX7_decodeAll_69 h0 ?_
      refine m_get C Y 40 (by decide) (by decide) wf_X7_221 dX7_decodeAll_70 ?_
      refine x_aload_n C dX7_decodeAll_73 h0 ?_
      refine m_get C Y 39 (by decide) (by decide) wf_X7_215 dX7_decodeAll_74 ?_
      rw [g.1, g.2.1]
      refine x_icmp_ge (tgt := 87) C dX7_decodeAll_77 (by decide) (fun c77 => absurd c77 (fun q => c40.mp q h1.2)) (fun c77 => ?_)
      refine x_aload_n C dX7_decodeAll_80 h0 ?_
      refine m_callF C Y hW E (ho) rfl md_X7_oneRecord wi_X7_oneRecord ws_X7_oneRecord wm_X7_224 dX7_decodeAll_81 rfl (by decide) (by decide) rfl (by simp [Value.category]) ?_
      refine x_goto (tgt := 62) C dX7_decodeAll_84 (by decide) ?_
      exact ih2
    · rw [if_neg h1] at hR
      subst hR
      refine x_aload_n C dX7_decodeAll_62 h0 ?_
      refine m_get C Y 41 (by decide) (by decide) wf_X7_204 dX7_decodeAll_63 ?_
      refine x_if_ne (tgt := 87) C dX7_decodeAll_66 (by decide) (fun c66 => ?_) (fun c66 => ?_)
      · skip
        exact kk
      · skip
        refine x_aload_n C dX7_decodeAll_69 h0 ?_
        refine m_get C Y 40 (by decide) (by decide) wf_X7_221 dX7_decodeAll_70 ?_
        refine x_aload_n C dX7_decodeAll_73 h0 ?_
        refine m_get C Y 39 (by decide) (by decide) wf_X7_215 dX7_decodeAll_74 ?_
        rw [g.1, g.2.1]
        refine x_icmp_ge (tgt := 87) C dX7_decodeAll_77 (by decide) (fun c77 => ?_) (fun c77 => ?_)
        · skip
          exact kk
        · skip
          exact absurd ⟨c66, Classical.not_not.mp (fun q => c77 (c40.mpr q))⟩ h1
end All
