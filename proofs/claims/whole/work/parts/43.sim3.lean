/-! the end of a trial, on both sides -/
def RT (N K c : Nat) (s : Nat → Int32) (f : Nat → Nat → Int32) (s' : Nat → Int32) (f' : Nat → Nat → Int32) : Prop := (∀ j, j < 20 → s' j = s j) ∧ RBest N s f s' f' ∧ RHist N K f f' ∧ RArr N K f f' ∧ RPl f ∧ RRaw c f f'
section SIM3
variable {s s' : Nat → Int32} {f f' g g' : Nat → Nat → Int32} {N K c d b mm G : Nat} {u q : Int32}
theorem RT.one (h : RT N K c s f s' f') (hg : ∀ j, j ≠ 1 → j ≠ 2 → j ≠ 5 → g j = f j) (hg' : ∀ j, j ≠ 1 → j ≠ 2 → j ≠ 5 → g' j = f' j) (h1 : ∀ k, k < N → g' 1 k = g 1 k) : RT N K c s g s' g' := by
  obtain ⟨a, t, hh, ⟨e0, e1, e4, e6⟩, p, r⟩ := h
  have G0 := hg 0 (by decide) (by decide) (by decide)
  have G3 := hg 3 (by decide) (by decide) (by decide)
  have G4 := hg 4 (by decide) (by decide) (by decide)
  have G6 := hg 6 (by decide) (by decide) (by decide)
  have G7 := hg 7 (by decide) (by decide) (by decide)
  have G8 := hg 8 (by decide) (by decide) (by decide)
  have G9 := hg 9 (by decide) (by decide) (by decide)
  have P0 := hg' 0 (by decide) (by decide) (by decide)
  have P3 := hg' 3 (by decide) (by decide) (by decide)
  have P4 := hg' 4 (by decide) (by decide) (by decide)
  have P6 := hg' 6 (by decide) (by decide) (by decide)
  have P7 := hg' 7 (by decide) (by decide) (by decide)
  have P8 := hg' 8 (by decide) (by decide) (by decide)
  have P9 := hg' 9 (by decide) (by decide) (by decide)
  have P10 := hg' 10 (by decide) (by decide) (by decide)
  refine ⟨a, ?_, fun A hA hK => ?_, ⟨fun k hk => ?_, h1, fun z k hk => ?_, fun k hk => ?_⟩, fun k hk => ?_, fun k hk => ?_⟩
  · rcases t with t | ⟨t1, t2, t3, t4, t5⟩
    · exact .inl t
    · exact .inr ⟨t1, t2, t3, t4, fun k hk => by rw [P9, G9]; exact t5 k hk⟩
  · rw [P7, G7, P8, G8, P10, hg (10 + (K - 1 - A) % 5) (by omega) (by omega) (by omega)]; exact hh A hA hK
  · rw [P0, G0]; exact e0 k hk
  · rw [P4, G4]; exact e4 z k hk
  · rw [P6, G6]; exact e6 k hk
  · rw [G6]; exact p k hk
  · rw [P3, G3]; exact r k hk
theorem RT.put3 {j : Nat} {x : Int32} (h : RT N K j s f s' f') : RT N K (j + 1) s (va_up f 3 (upd (f 3) j x)) s' (va_up f' 3 (upd (f' 3) j x)) := by
  obtain ⟨a, t, hh, ⟨e0, e1, e4, e6⟩, p, r⟩ := h
  refine ⟨a, ?_, fun A hA hK => ?_, ⟨fun k hk => put_eq (e0 k hk), fun k hk => put_eq (e1 k hk), fun z k hk => put_eq (e4 z k hk), fun k hk => put_eq (e6 k hk)⟩, fun k hk => ?_, fun k hk => ?_⟩
  · rcases t with t | ⟨t1, t2, t3, t4, t5⟩
    · exact .inl t
    · exact .inr ⟨t1, t2, t3, t4, fun k hk => put_eq (t5 k hk)⟩
  · obtain ⟨q1, q2, q3⟩ := hh A hA hK
    rw [va_un (show 7 ≠ 3 by decide), va_un (show 7 ≠ 3 by decide), va_un (show 8 ≠ 3 by decide), va_un (show 8 ≠ 3 by decide), va_un (show 10 ≠ 3 by decide), va_un (show 10 + (K - 1 - A) % 5 ≠ 3 by omega)]
    exact ⟨q1, q2, q3⟩
  · rw [va_un (show 6 ≠ 3 by decide)]; exact p k hk
  · rw [va_us, va_us]
    by_cases e : k = j
    · subst e; rw [up_s, up_s]
    · rw [up_n e, up_n e]; exact r k (by omega)
theorem ea_eq (h4 : 4 ≤ N) (h48 : N ≤ 48) (h0 : ∀ k, k < N → f' 0 k = f 0 k) (h3 : RRaw N f f') {k : Nat} (hk : k < N) : eaF f' N u k = erF (va_up f 4 (pfx N (alF f N u) (f 4))) k := by
  unfold eaF erF
  rw [va_un (show 0 ≠ 4 by decide), va_us, pfx_lt _ _ hk, h0 k hk]
  unfold alF
  rw [h3 _ (rix_lt h4 h48)]
theorem nm_eq (h4 : 4 ≤ N) (h48 : N ≤ 48) (h0 : ∀ k, k < N → f' 0 k = f 0 k) (h3 : RRaw N f f') : nmF f' N u N = nrF (va_up f 4 (pfx N (alF f N u) (f 4))) N := by
  unfold nmF nrF
  exact sumI_congr (fun k hk => by rw [ea_eq h4 h48 h0 h3 hk])
theorem ad_o {j : Nat} (h7 : j ≠ 7) (h8 : j ≠ 8) (h : j ≠ 10 + K % 5) : (o_X1_add s f N K u).2 j = f j := by
  show va_up (va_up (va_up f (10 + K % 5) _) 7 _) 8 _ j = _
  rw [va_un h8, va_un h7, va_un h]
theorem ad_r {k : Nat} (hk : k < N) : (o_X1_add s f N K u).2 (10 + K % 5) k = erF f k := by
  show va_up (va_up (va_up f (10 + K % 5) _) 7 _) 8 _ (10 + K % 5) k = _
  rw [va_un (show 10 + K % 5 ≠ 8 by omega), va_un (show 10 + K % 5 ≠ 7 by omega), va_us, pfx_lt _ _ hk]
theorem ad_7 : (o_X1_add s f N K u).2 7 = upd (f 7) (K % 5) (nrF f N) := by
  simp only [o_X1_add, o_X1_add_23]
  rw [va_un (show 7 ≠ 8 by decide), va_us, va_un (show 7 ≠ 10 + K % 5 by omega)]
theorem ad_8 : (o_X1_add s f N K u).2 8 = upd (f 8) (K % 5) u := by
  simp only [o_X1_add, o_X1_add_23]
  rw [va_us, va_un (show 8 ≠ 10 + K % 5 by omega)]
theorem fe_7 : feF f N u 7 = upd (shN 0 (f 7)) 0 (nmF f N u N) := rfl
theorem fe_8 : feF f N u 8 = upd (shN 0 (f 8)) 0 u := rfl
theorem fe_10 : feF f N u 10 = pfx N (eaF f N u) (shE 1 48 (f 10)) := rfl
theorem fe_5 : feF f N u 5 = pfx N (eaF f N u) (f 5) := rfl
theorem fe_4 : feF f N u 4 = pfx N (alF f N u) (f 4) := rfl
theorem hist_next (h4 : 4 ≤ N) (h48 : N ≤ 48) (hH : RHist N K f f') (h0 : ∀ k, k < N → f' 0 k = f 0 k) (h3 : RRaw N f f') : RHist N (K + 1) (o_X1_add s (va_up f 4 (pfx N (alF f N u) (f 4))) N K u).2 (feF f' N u) := by
  intro A hA hAK
  by_cases e : A = 0
  · subst e
    rw [show K + 1 - 1 - 0 = K by omega]
    refine ⟨?_, ?_, fun k hk => ?_⟩
    · rw [fe_7, ad_7, up_s, up_s]; exact nm_eq h4 h48 h0 h3
    · rw [fe_8, ad_8, up_s, up_s]
    · rw [fe_10, ad_r hk, show 48 * 0 + k = k by omega, pfx_lt _ _ hk]; exact ea_eq h4 h48 h0 h3 hk
  · obtain ⟨a1, a2, a3⟩ := hH (A - 1) (by omega) (by omega)
    rw [show K - 1 - (A - 1) = K - A by omega] at a1 a2 a3
    have ne : (K - A) % 5 ≠ K % 5 := by omega
    rw [show K + 1 - 1 - A = K - A by omega]
    refine ⟨?_, ?_, fun k hk => ?_⟩
    · rw [fe_7, ad_7, up_n e, up_n ne, va_un (show 7 ≠ 4 by decide)]
      show (if 0 + 1 ≤ A ∧ A < 5 then f' 7 (A - 1) else f' 7 A) = _
      rw [if_pos ⟨by omega, hA⟩]; exact a1
    · rw [fe_8, ad_8, up_n e, up_n ne, va_un (show 8 ≠ 4 by decide)]
      show (if 0 + 1 ≤ A ∧ A < 5 then f' 8 (A - 1) else f' 8 A) = _
      rw [if_pos ⟨by omega, hA⟩]; exact a2
    · rw [fe_10, pfx_ge _ _ (by omega), ad_o (by omega) (by omega) (by omega), va_un (by omega)]
      unfold shE
      rw [if_pos (by omega), show 48 * A + k - 48 = 48 * (A - 1) + k by omega]
      exact a3 k hk
theorem judge_nb (h48 : N ≤ 48) (hs : ∀ j, j < 20 → s' j = s j) (h1 : ∀ k, k < N → f' 1 k = f 1 k) (h13 : 0 ≤ s 13 - 1) : (∀ j, j < 20 → upd (upd (upd s' 22 (s' 13 - 1)) 21 q) 16 0 j = upd (upd (upd (upd s 20 1) 21 q) 22 (s 13 - 1)) 16 0 j) ∧ RBest N (upd (upd (upd (upd s 20 1) 21 q) 22 (s 13 - 1)) 16 0) (va_up f 9 (va_cpy (f 1) (f 9) 0 0 48)) (upd (upd (upd s' 22 (s' 13 - 1)) 21 q) 16 0) (va_up f' 9 (pfx N (f' 1) (f' 9))) ∧ (¬ upd (upd (upd (upd s 20 1) 21 q) 22 (s 13 - 1)) 16 0 20 = 0) ∧ ∀ j, j ≠ 9 → va_up f 9 (va_cpy (f 1) (f 9) 0 0 48) j = f j ∧ va_up f' 9 (pfx N (f' 1) (f' 9)) j = f' j := by
  have e13 : s' 13 = s 13 := hs 13 (by decide)
  refine ⟨fun j hj => ?_, .inr ⟨(show ¬ (1 : Int32) = 0 by decide), ?_, rfl, ?_, fun k hk => ?_⟩, (show ¬ (1 : Int32) = 0 by decide), fun j hj => ⟨va_un hj, va_un hj⟩⟩
  · by_cases e : j = 16
    · subst e; rw [up_s, up_s]
    · rw [up_n e, up_n e, up_n (by omega), up_n (by omega), up_n (by omega), up_n (by omega), up_n (by omega)]; exact hs j hj
  · show s' 13 - 1 = s 13 - 1
    rw [e13]
  · show 0 ≤ s' 13 - 1
    rw [e13]; exact h13
  · rw [va_us, va_us, cpy_pfx2, pfx_lt _ _ hk, pfx_lt _ _ (by omega)]; exact h1 k hk
theorem judge_rel (h48 : N ≤ 48) (hs : ∀ j, j < 20 → s' j = s j) (hB : RBest N s f s' f') (h1 : ∀ k, k < N → f' 1 k = f 1 k) (h13 : 0 ≤ s 13 - 1) : (∀ j, j < 20 → (o_X5_rate s' f' N q).1 j = (o_X4_judge s f q).1 j) ∧ RBest N (o_X4_judge s f q).1 (o_X4_judge s f q).2 (o_X5_rate s' f' N q).1 (o_X5_rate s' f' N q).2 ∧ (¬ (o_X4_judge s f q).1 20 = 0) ∧ ∀ j, j ≠ 9 → (o_X4_judge s f q).2 j = f j ∧ (o_X5_rate s' f' N q).2 j = f' j := by
  have nb := judge_nb (q := q) h48 hs h1 h13
  have up16 : ∀ x y : Int32, x = y → ∀ j, j < 20 → upd s' 16 x j = upd s 16 y j := fun x y e j hj => by
    by_cases e2 : j = 16
    · subst e2; rw [up_s, up_s, e]
    · rw [up_n e2, up_n e2]; exact hs j hj
  unfold o_X4_judge o_X5_rate o_X5_rate_32
  rcases hB with ⟨a1, a2⟩ | ⟨a1, a2, a3, a4, a5⟩
  · rw [if_pos a1, if_pos (show s' 22 < 0 by rw [a2]; decide)]
    exact nb
  · rw [if_neg a1, if_neg (show ¬ s' 22 < 0 from Int32.not_lt.mpr a4), a3]
    by_cases c1 : s 21 ≤ q
    · rw [if_pos c1, if_pos c1]
      by_cases c2 : q ≤ s 21
      · rw [if_pos c2, if_pos c2]
        exact ⟨up16 _ _ rfl, .inr ⟨a1, a2, a3, a4, a5⟩, a1, fun j _ => ⟨rfl, rfl⟩⟩
      · rw [if_neg c2, if_neg c2]
        exact ⟨up16 _ _ (by rw [hs 16 (by decide)]), .inr ⟨a1, a2, a3, a4, a5⟩, a1, fun j _ => ⟨rfl, rfl⟩⟩
    · rw [if_neg c1, if_neg c1]
      exact nb
theorem learn_rel {E kn : Nat} {fd : Int32} (h4 : 4 ≤ N) (hkn : kn ≤ N) (h : RT N K c s f s' f') (hE : ∀ k, k < kn → f' 5 k = f E k) : RT N K c s (o_X4_correct s f N kn E d b mm fd) s' (o_X5_correct s' f' N kn d b mm fd) :=
  h.one (fun _ j1 j2 _ => cor_oth4 j1 j2) (fun _ j1 j2 _ => cor_oth5 j1 j2) (cor_rel (h.1 1 (by decide)) (h.1 3 (by decide)) (h.1 5 (by decide)) h4 hkn h.2.2.2.1.2.1 hE)
theorem slt_K (h : K + 1 < 1000000) : slt (nI (K + 1)) 0 = K % 5 := by
  unfold slt
  rw [nI_clamp (by omega)]
  rfl
theorem end_27 (h4 : 4 ≤ N) (h48 : N ≤ 48) (hK2 : K + 1 < 1000000) (h13 : 0 ≤ s 13 - 1) (h11 : s' 11 = 0) (h : RT N K N (upd s 11 0) f s' f') : RT N (K + 1) N (o_X4_completeTrial_27 s f N K d b mm G u).1 (o_X4_completeTrial_27 s f N K d b mm G u).2 (o_X5_finish_13 s' f' N K d b mm G u).1 (o_X5_finish_13 s' f' N K d b mm G u).2 ∧ ((o_X4_completeTrial_27 s f N K d b mm G u).1 1 = s 1 ∨ (o_X4_completeTrial_27 s f N K d b mm G u).1 1 = s 1 / 2) := by
  obtain ⟨a, t, hh, ⟨e0, e1, e4, e6⟩, p, r⟩ := h
  have hn := hist_next (s := upd s 11 0) (u := u) h4 h48 hh e0 r
  have hq := nm_eq (u := u) h4 h48 e0 r
  have hs : ∀ j, j < 20 → upd s' 19 (nI (K + 1)) j = upd (upd s 11 0) 19 (nI (K + 1)) j := fun j hj => by
    by_cases e : j = 19
    · subst e; rw [up_s, up_s]
    · rw [up_n e, up_n e]; exact a j hj
  have o7 : ∀ {j : Nat}, j ≠ 7 → j ≠ 8 → j < 10 → j ≠ 4 → (o_X1_add (upd s 11 0) (va_up f 4 (pfx N (alF f N u) (f 4))) N K u).2 j = f j := fun h7 h8 h10 h4 => (ad_o h7 h8 (by omega)).trans (va_un h4)
  have hB : RBest N (upd (upd s 11 0) 19 (nI (K + 1))) (o_X1_add (upd s 11 0) (va_up f 4 (pfx N (alF f N u) (f 4))) N K u).2 (upd s' 19 (nI (K + 1))) (feF f' N u) := by
    rcases t with t | ⟨t1, t2, t3, t4, t5⟩
    · exact .inl t
    · exact .inr ⟨t1, t2, t3, t4, fun k hk => by rw [o7 (by decide) (by decide) (by decide) (by decide)]; exact t5 k hk⟩
  have h1 : ∀ k, k < N → feF f' N u 1 k = (o_X1_add (upd s 11 0) (va_up f 4 (pfx N (alF f N u) (f 4))) N K u).2 1 k := fun k hk => by
    rw [o7 (by decide) (by decide) (by decide) (by decide)]; exact e1 k hk
  obtain ⟨j1, j2, j3, j4⟩ := judge_rel (q := nmF f' N u N) h48 hs hB h1 h13
  have jE : ∀ k, k < N → feF f' N u 5 k = (o_X1_add (upd s 11 0) (va_up f 4 (pfx N (alF f N u) (f 4))) N K u).2 (10 + K % 5) k := fun k hk => by
    rw [ad_r hk, fe_5, pfx_lt _ _ hk]; exact ea_eq h4 h48 e0 r hk
  have RB : RT N (K + 1) N (o_X4_judge (upd (upd s 11 0) 19 (nI (K + 1))) (o_X1_add (upd s 11 0) (va_up f 4 (pfx N (alF f N u) (f 4))) N K u).2 (nmF f' N u N)).1 (o_X4_judge (upd (upd s 11 0) 19 (nI (K + 1))) (o_X1_add (upd s 11 0) (va_up f 4 (pfx N (alF f N u) (f 4))) N K u).2 (nmF f' N u N)).2 (o_X5_rate (upd s' 19 (nI (K + 1))) (feF f' N u) N (nmF f' N u N)).1 (o_X5_rate (upd s' 19 (nI (K + 1))) (feF f' N u) N (nmF f' N u N)).2 := by
    refine ⟨j1, j2, fun A hA hAK => ?_, ⟨fun k hk => ?_, fun k hk => ?_, fun _ k hk => ?_, fun k hk => ?_⟩, fun k hk => ?_, fun k hk => ?_⟩
    · rw [(j4 7 (by decide)).1, (j4 7 (by decide)).2, (j4 8 (by decide)).1, (j4 8 (by decide)).2, (j4 10 (by decide)).2, (j4 (10 + (K + 1 - 1 - A) % 5) (by omega)).1]
      exact hn A hA hAK
    · rw [(j4 0 (by decide)).1, (j4 0 (by decide)).2, o7 (by decide) (by decide) (by decide) (by decide)]; exact e0 k hk
    · rw [(j4 1 (by decide)).1, (j4 1 (by decide)).2]; exact h1 k hk
    · rw [(j4 4 (by decide)).1, (j4 4 (by decide)).2, fe_4, ad_o (by decide) (by decide) (by omega), va_us, pfx_lt _ _ hk, pfx_lt _ _ hk]
      unfold alF
      exact r _ (rix_lt h4 h48)
    · rw [(j4 6 (by decide)).1, (j4 6 (by decide)).2, o7 (by decide) (by decide) (by decide) (by decide)]; exact e6 k hk
    · rw [(j4 6 (by decide)).1, o7 (by decide) (by decide) (by decide) (by decide)]; exact p k hk
    · rw [(j4 3 (by decide)).1, (j4 3 (by decide)).2, o7 (by decide) (by decide) (by decide) (by decide)]; exact r k hk
  have j19 : (o_X4_judge (upd (upd s 11 0) 19 (nI (K + 1))) (o_X1_add (upd s 11 0) (va_up f 4 (pfx N (alF f N u) (f 4))) N K u).2 (nmF f' N u N)).1 19 = nI (K + 1) := jd_s _ _ _ (by decide)
  have jg : (o_X4_judge (upd (upd s 11 0) 19 (nI (K + 1))) (o_X1_add (upd s 11 0) (va_up f 4 (pfx N (alF f N u) (f 4))) N K u).2 (nmF f' N u N)).1 1 = s 1 := jd_s _ _ _ (by decide)
  have jE2 : ∀ k, k < N → (o_X5_rate (upd s' 19 (nI (K + 1))) (feF f' N u) N (nmF f' N u N)).2 5 k = (o_X4_judge (upd (upd s 11 0) 19 (nI (K + 1))) (o_X1_add (upd s 11 0) (va_up f 4 (pfx N (alF f N u) (f 4))) N K u).2 (nmF f' N u N)).2 (10 + K % 5) k := fun k hk => by
    rw [(j4 5 (by decide)).2, (j4 (10 + K % 5) (by omega)).1]; exact jE k hk
  have s10 : s' 10 = s 10 := a 10 (by decide)
  unfold o_X4_completeTrial_27 o_X5_finish_13 o_X5_finish_129
  rw [← hq]
  generalize o_X4_judge (upd (upd s 11 0) 19 (nI (K + 1))) (o_X1_add (upd s 11 0) (va_up f 4 (pfx N (alF f N u) (f 4))) N K u).2 (nmF f' N u N) = J at *
  generalize o_X5_rate (upd s' 19 (nI (K + 1))) (feF f' N u) N (nmF f' N u N) = T at *
  have L := learn_rel (d := d) (b := b) (mm := mm) (fd := 0) h4 (Nat.le_refl N) RB jE2
  rw [j19, slt_K hK2, s10, RB.1 16 (by decide)]
  by_cases c1 : s 10 = 0
  · rw [if_pos c1, if_pos c1]
    exact ⟨L, .inl jg⟩
  rw [if_neg c1, if_neg c1]
  by_cases c2 : J.1 16 < 2
  · rw [if_pos c2, if_pos c2]
    exact ⟨L, .inl jg⟩
  rw [if_neg c2, if_neg c2]
  have R2 : RT N (K + 1) N J.1 (va_up J.2 1 (va_cpy (J.2 9) (J.2 1) 0 0 48)) T.1 (va_up T.2 1 (pfx N (T.2 9) (T.2 1))) := by
    refine RB.one (fun j h1 _ _ => va_un h1) (fun j h1 _ _ => va_un h1) (fun k hk => ?_)
    rw [va_us, va_us, cpy_pfx2, pfx_lt _ _ hk, pfx_lt _ _ (by omega)]
    rcases RB.2.1 with ⟨z, _⟩ | ⟨_, _, _, _, z⟩
    · exact absurd z j3
    · exact z k hk
  obtain ⟨b1, b2, b3⟩ := R2
  refine ⟨⟨fun j hj => ?_, b2, b3⟩, .inr ?_⟩
  · rw [b1 1 (by decide), b1 15 (by decide)]
    show upd (upd (upd T.1 1 (J.1 1 / 2)) 16 0) 15 (J.1 15 + 1) j = upd (upd (upd J.1 1 (J.1 1 / 2)) 16 0) 15 (J.1 15 + 1) j
    by_cases e : j = 15
    · subst e; rw [up_s, up_s]
    rw [up_n e, up_n e]
    by_cases e : j = 16
    · subst e; rw [up_s, up_s]
    rw [up_n e, up_n e]
    by_cases e : j = 1
    · subst e; rw [up_s, up_s]
    rw [up_n e, up_n e]
    exact b1 j hj
  · show J.1 1 / 2 = s 1 / 2
    rw [jg]
theorem end_rel (h4 : 4 ≤ N) (h48 : N ≤ 48) (hK : s 19 = nI K) (hK2 : K + 1 < 1000000) (h13 : 0 ≤ s 13 - 1) (h11 : s' 11 = 0) (h : RT N K N (upd s 11 0) f s' f') : RT N (K + 1) N (o_X4_completeTrial s f N K d b mm G).1 (o_X4_completeTrial s f N K d b mm G).2 (o_X5_finish s' f' N K d b mm G).1 (o_X5_finish s' f' N K d b mm G).2 ∧ ((o_X4_completeTrial s f N K d b mm G).1 1 = s 1 ∨ (o_X4_completeTrial s f N K d b mm G).1 1 = s 1 / 2) := by
  unfold o_X4_completeTrial o_X5_finish shF
  rw [rch_if, up_n (show 19 ≠ 11 by decide), hK]
  by_cases c0 : K = 0
  · subst c0
    rw [if_pos (show nI 0 ≤ 0 by decide), if_pos rfl]
    exact end_27 h4 h48 hK2 h13 h11 h
  · rw [if_neg (show ¬ nI K ≤ 0 from fun z => c0 (by have := (nI_leI (a := K) (b := 0) (by omega) (by omega)).mp z; omega)), if_neg c0, misf_congr h4 h48 h.2.2.2.2.2 (h.2.2.2.1.2.2.1 (by omega))]
    exact end_27 h4 h48 hK2 h13 h11 h
end SIM3
