section LAWL
variable {p : Program} {l : Launch} {e : Env} {s : State} {m : MethodId} {below : List Frame} {meth : Method} {c : Code} {H : Heap} {locs : List Loc} {cells slots : Nat} {Q : State → Prop} {args : Array Value} 
variable {pc : Nat} {ls : Array Slot} {rest : List Value} {D : va_G} {tys : List (ClassId × FieldType)} {cI cO : ClassId} {ws : va_W} {b L : Nat} {xs : Nat → Int32}
variable {a a' : Nat → Nat}
theorem lp_c {i L : Nat} (hL : L ≤ 1536) (hi : i ≤ 3000) : (Int32.ofNat L - 3 < nI i) ↔ L < i + 3 := by
  have e3 : (3 : Int32).toInt = 3 := by decide
  have eL : (Int32.ofNat L).toInt = L := nI_toInt (by omega)
  rw [Int32.lt_iff_toInt_lt, nI_toInt (by omega), Int32.toInt_sub, eL, e3, Int.bmod_eq_of_le (by omega) (by omega)]
  omega
theorem x_inc3 (i : Nat) : nI i + Int32.ofInt 3 = nI (i + 3) := by
  rw [show Int32.ofInt 3 = nI 2 + 1 by decide, ← Int32.add_assoc, nI_2]
  exact nI_1 (i + 2)
theorem law_head {i : Nat} {v : Nat → Nat} {sx sm : Nat → Int32} {fx fm : Nat → Nat → Int32} (S : CallFix p m c cL_law 4 s args wsL_law RL) (hX : va_X b L xs s s.heap) (hb : b < s.heap.size) (hL : L ≤ 1536) (hi : i ≤ L) (hl : lv_has ls 4 [(3, .int (nI i)), (2, .ref (a' 0)), (1, .ref (a 0)), (0, .ref b)]) (h : Rel (48 * i) v sx fx sm fm) (w : Wd D (kT cI cO) (lwA s) s.heap s (xW cI cO a sx fx (mW cI cO a' sm fm [])) H locs)
    (hEnd : ∀ (ls : Array Slot) (H : Heap), W p l e room_1 s m args below meth c H [] 600000 7302250 Q (F0 m 922 ls [.int 1])) (foot : i + 3 ≤ L → LK p l e s m args below meth c Q ls D cI cO a a' (48 * i + 48)) : W p l e room_1 s m args below meth c H locs 600000 7302250 Q (F0 m 18 ls []) := by
  refine lv_iload_n S.1 S.2.1 dL_law_18 rfl (lv_at hl 0 rfl) ?_
  refine lv_aload_n S.1 S.2.1 dL_law_19 rfl (lv_at hl 3 rfl) ?_
  refine va_slen S.1 S.2.1 hX hb (fun z => absurd hb (Nat.not_lt.mpr z)) w.2.2.2.1 dL_law_20 ?_
  refine lv_iconst (v := 3) S.1 S.2.1 dL_law_21 (by decide) ?_
  refine lv_isub S.1 S.2.1 dL_law_22 ?_
  refine lv_icmp_gt (tgt := 921) S.1 S.2.1 dL_law_23 (by decide) (fun z => ?_) (fun z => ?_)
  · refine lv_iconst (v := 1) S.1 S.2.1 dL_law_921 (by decide) ?_
    exact va_forget (fun q hq => w.2.2.2.1.2.2 q hq) (hEnd ls H)
  have hi3 : i + 3 ≤ L := Nat.le_of_not_lt (fun y => z ((lp_c hL (by omega)).mpr y))
  have hB : 48 * i + 60 < 1000000 := by omega
  refine lv_aload_n S.1 S.2.1 dL_law_26 rfl (lv_at hl 3 rfl) ?_
  refine lv_iload_n S.1 S.2.1 dL_law_27 rfl (lv_at hl 0 rfl) ?_
  refine va_sld S.1 S.2.1 hX hb (fun z => absurd hb (Nat.not_lt.mpr z)) w.2.2.2.1 (vp_inI (by omega) (by omega)) dL_law_28 ?_
  refine lv_bipush (v := 31) S.1 S.2.1 dL_law_29 (by decide) ?_
  refine lv_iand S.1 S.2.1 dL_law_31 ?_
  generalize (xs (nI i).toNatClampNeg &&& 31) = X
  by_cases r : X.toInt < 0 ∨ 29 < X.toInt
  · refine lv_tableOut (tgt := 915) S.1 S.2.1 dL_law_32 r (by decide) ?_
    exact foot hi3 v sx fx sm fm H locs (h.mono (by omega)) w
  obtain ⟨k, hk, hXk⟩ : ∃ k : Nat, k < 30 ∧ X = nI k := ⟨X.toInt.toNat, by omega, Int32.toInt_inj.mp (by rw [nI_toInt (by omega)]; omega)⟩
  subst hXk
  rcases (show k = 0 ∨ k = 1 ∨ k = 2 ∨ k = 3 ∨ k = 4 ∨ k = 5 ∨ k = 6 ∨ k = 7 ∨ k = 8 ∨ k = 9 ∨ k = 10 ∨ k = 11 ∨ k = 12 ∨ k = 13 ∨ k = 14 ∨ k = 15 ∨ k = 16 ∨ k = 17 ∨ k = 18 ∨ k = 19 ∨ k = 20 ∨ k = 21 ∨ k = 22 ∨ k = 23 ∨ k = 24 ∨ k = 25 ∨ k = 26 ∨ k = 27 ∨ k = 28 ∨ k = 29 by omega) with e | e | e | e | e | e | e | e | e | e | e | e | e | e | e | e | e | e | e | e | e | e | e | e | e | e | e | e | e | e
  · subst e
    exact lv_tableIn (x := nI 0) (off := 136) (tgt := 168) S.1 S.2.1 dL_law_32 (by decide) (by decide) rfl (by decide) (lc_reset S hX hb hl hi3 hL w h hB (foot hi3))
  · subst e
    exact lv_tableIn (x := nI 1) (off := 159) (tgt := 191) S.1 S.2.1 dL_law_32 (by decide) (by decide) rfl (by decide) (lc_setReference S hX hb hl hi3 hL w h hB (foot hi3))
  · subst e
    exact lv_tableIn (x := nI 2) (off := 192) (tgt := 224) S.1 S.2.1 dL_law_32 (by decide) (by decide) rfl (by decide) (lc_setGain S hX hb hl hi3 hL w h hB (foot hi3))
  · subst e
    exact lv_tableIn (x := nI 3) (off := 225) (tgt := 257) S.1 S.2.1 dL_law_32 (by decide) (by decide) rfl (by decide) (lc_setSmoothing S hX hb hl hi3 hL w h hB (foot hi3))
  · subst e
    exact lv_tableIn (x := nI 4) (off := 258) (tgt := 290) S.1 S.2.1 dL_law_32 (by decide) (by decide) rfl (by decide) (lc_setLimits S hX hb hl hi3 hL w h hB (foot hi3))
  · subst e
    exact lv_tableIn (x := nI 5) (off := 291) (tgt := 323) S.1 S.2.1 dL_law_32 (by decide) (by decide) rfl (by decide) (lc_setGreatestShift S hX hb hl hi3 hL w h hB (foot hi3))
  · subst e
    exact lv_tableIn (x := nI 6) (off := 314) (tgt := 346) S.1 S.2.1 dL_law_32 (by decide) (by decide) rfl (by decide) (lc_setTolerance S hX hb hl hi3 hL w h hB (foot hi3))
  · subst e
    exact lv_tableIn (x := nI 7) (off := 347) (tgt := 379) S.1 S.2.1 dL_law_32 (by decide) (by decide) rfl (by decide) (lc_setGuard S hX hb hl hi3 hL w h hB (foot hi3))
  · subst e
    exact lv_tableIn (x := nI 8) (off := 386) (tgt := 418) S.1 S.2.1 dL_law_32 (by decide) (by decide) rfl (by decide) (lc_setting S hX hb hl hi3 hL w h hB (foot hi3))
  · subst e
    exact lv_tableIn (x := nI 9) (off := 409) (tgt := 441) S.1 S.2.1 dL_law_32 (by decide) (by decide) rfl (by decide) (lc_startTrial S hX hb hl hi3 hL w h hB (foot hi3))
  · subst e
    exact lv_tableIn (x := nI 10) (off := 422) (tgt := 454) S.1 S.2.1 dL_law_32 (by decide) (by decide) rfl (by decide) (lc_record S hX hb hl hi3 hL w h hB (foot hi3))
  · subst e
    exact lv_tableIn (x := nI 11) (off := 445) (tgt := 477) S.1 S.2.1 dL_law_32 (by decide) (by decide) rfl (by decide) (lc_abort S hX hb hl hi3 hL w h hB (foot hi3))
  · subst e
    exact lv_tableIn (x := nI 12) (off := 458) (tgt := 490) S.1 S.2.1 dL_law_32 (by decide) (by decide) rfl (by decide) (lc_position S hX hb hl hi3 hL w h hB (foot hi3))
  · subst e
    exact lv_tableIn (x := nI 13) (off := 471) (tgt := 503) S.1 S.2.1 dL_law_32 (by decide) (by decide) rfl (by decide) (lc_input S hX hb hl hi3 hL w h hB (foot hi3))
  · subst e
    exact lv_tableIn (x := nI 14) (off := 494) (tgt := 526) S.1 S.2.1 dL_law_32 (by decide) (by decide) rfl (by decide) (lc_setInput S hX hb hl hi3 hL w h hB (foot hi3))
  · subst e
    exact lv_tableIn (x := nI 15) (off := 527) (tgt := 559) S.1 S.2.1 dL_law_32 (by decide) (by decide) rfl (by decide) (lc_reference S hX hb hl hi3 hL w h hB (foot hi3))
  · subst e
    exact lv_tableIn (x := nI 16) (off := 550) (tgt := 582) S.1 S.2.1 dL_law_32 (by decide) (by decide) rfl (by decide) (lc_count S hX hb hl hi3 hL w h hB (foot hi3))
  · subst e
    exact lv_tableIn (x := nI 17) (off := 573) (tgt := 605) S.1 S.2.1 dL_law_32 (by decide) (by decide) rfl (by decide) (lc_error S hX hb hl hi3 hL w h hB (foot hi3))
  · subst e
    exact lv_tableIn (x := nI 18) (off := 606) (tgt := 638) S.1 S.2.1 dL_law_32 (by decide) (by decide) rfl (by decide) (lc_norm S hX hb hl hi3 hL w h hB (foot hi3))
  · subst e
    exact lv_tableIn (x := nI 19) (off := 629) (tgt := 661) S.1 S.2.1 dL_law_32 (by decide) (by decide) rfl (by decide) (lc_shift S hX hb hl hi3 hL w h hB (foot hi3))
  · subst e
    exact lv_tableIn (x := nI 20) (off := 652) (tgt := 684) S.1 S.2.1 dL_law_32 (by decide) (by decide) rfl (by decide) (lc_worstSample S hX hb hl hi3 hL w h hB (foot hi3))
  · subst e
    exact lv_tableIn (x := nI 21) (off := 675) (tgt := 707) S.1 S.2.1 dL_law_32 (by decide) (by decide) rfl (by decide) (lc_energy S hX hb hl hi3 hL w h hB (foot hi3))
  · subst e
    exact lv_tableIn (x := nI 22) (off := 699) (tgt := 731) S.1 S.2.1 dL_law_32 (by decide) (by decide) rfl (by decide) (lc_best S hX hb hl hi3 hL w h hB (foot hi3))
  · subst e
    exact lv_tableIn (x := nI 23) (off := 722) (tgt := 754) S.1 S.2.1 dL_law_32 (by decide) (by decide) rfl (by decide) (lc_bestInput S hX hb hl hi3 hL w h hB (foot hi3))
  · subst e
    exact lv_tableIn (x := nI 24) (off := 745) (tgt := 777) S.1 S.2.1 dL_law_32 (by decide) (by decide) rfl (by decide) (lc_state S hX hb hl hi3 hL w h hB (foot hi3))
  · subst e
    exact lv_tableIn (x := nI 25) (off := 768) (tgt := 800) S.1 S.2.1 dL_law_32 (by decide) (by decide) rfl (by decide) (lc_convergedCount S hX hb hl hi3 hL w h hB (foot hi3))
  · subst e
    exact lv_tableIn (x := nI 26) (off := 781) (tgt := 813) S.1 S.2.1 dL_law_32 (by decide) (by decide) rfl (by decide) (lc_setPlant S hX hb hl hi3 hL w h hB (foot hi3))
  · subst e
    exact lv_tableIn (x := nI 27) (off := 814) (tgt := 846) S.1 S.2.1 dL_law_32 (by decide) (by decide) rfl (by decide) (lc_setDisturbance S hX hb hl hi3 hL w h hB (foot hi3))
  · subst e
    exact lv_tableIn (x := nI 28) (off := 847) (tgt := 879) S.1 S.2.1 dL_law_32 (by decide) (by decide) rfl (by decide) (lc_simulate S hX hb hl hi3 hL w h hB (foot hi3))
  · subst e
    exact lv_tableIn (x := nI 29) (off := 870) (tgt := 902) S.1 S.2.1 dL_law_32 (by decide) (by decide) rfl (by decide) (lc_suits S hX hb hl hi3 hL w h hB (foot hi3))
theorem law_loop (S : CallFix p m c cL_law 4 s args wsL_law RL) (hX : va_X b L xs s s.heap) (hb : b < s.heap.size) (hL : L ≤ 1536) (hEnd : ∀ (ls : Array Slot) (H : Heap), W p l e room_1 s m args below meth c H [] 600000 7302250 Q (F0 m 922 ls [.int 1])) :
    ∀ (n i : Nat) (v : Nat → Nat) (sx : Nat → Int32) (fx : Nat → Nat → Int32) (sm : Nat → Int32) (fm : Nat → Nat → Int32) (ls : Array Slot) (H : Heap) (locs : List Loc), L < i + 3 * n + 3 → i ≤ L → lv_has ls 4 [(3, .int (nI i)), (2, .ref (a' 0)), (1, .ref (a 0)), (0, .ref b)] → Rel (48 * i) v sx fx sm fm → Wd D (kT cI cO) (lwA s) s.heap s (xW cI cO a sx fx (mW cI cO a' sm fm [])) H locs → W p l e room_1 s m args below meth c H locs 600000 7302250 Q (F0 m 18 ls []) := by
  intro n
  induction n with
  | zero =>
    intro i v sx fx sm fm ls H locs hn hi hl h w
    exact law_head S hX hb hL hi hl h w hEnd (fun z => absurd hn (by omega))
  | succ n ih =>
    intro i v sx fx sm fm ls H locs hn hi hl h w
    refine law_head S hX hb hL hi hl h w hEnd (fun hi3 v sx fx sm fm H locs h w => ?_)
    refine lv_iinc (v := nI (i + 3)) (lv' := [(3, .int (nI (i + 3))), (2, .ref (a' 0)), (1, .ref (a 0)), (0, .ref b)]) S.1 S.2.1 dL_law_915 hl (k := 0) rfl (x_inc3 _) (by decide) rfl (fun ls hl => ?_)
    refine lv_goto (tgt := 18) S.1 S.2.1 dL_law_918 (by decide) ?_
    exact ih (i + 3) v sx fx sm fm ls H locs (by omega) hi3 hl (h.mono (by omega)) w
end LAWL
