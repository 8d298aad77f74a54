section LAWB
variable {p : Program} {l : Launch} {e : Env} {s : State} {m : MethodId} {below : List Frame} {meth : Method} {c : Code} {H : Heap} {locs : List Loc} {cells slots : Nat} {Q : State → Prop} {args : Array Value} {R : Room}
variable {pc : Nat} {ls : Array Slot} {rest : List Value} {D : va_G} {tys : List (ClassId × FieldType)} {cI cO : ClassId} {ws : va_W} {b L i x y : Nat} {xs : Nat → Int32}
theorem nI_2 (i : Nat) : nI i + nI 2 = nI (i + 2) := by
  rw [show nI 2 = (1 : Int32) + 1 by decide, ← Int32.add_assoc]
  exact (congrArg (· + 1) (nI_1 i)).trans (nI_1 (i + 1))
def lwA (s : State) : Nat → Prop := fun q => s.heap.size ≤ q
theorem vp_inI {j n : Nat} (hj : j < n) (hn : n < 2 ^ 31) : vp_in (nI j) n := fun z => by
  rcases z with z | z
  · exact nI_pos (by omega) z
  · rw [nI_clamp (by omega)] at z; omega
theorem x_sc1 (S : CallFix p m c cL_law 4 s args wsL_law RL) (hX : va_X b L xs s s.heap) (hb : b < s.heap.size) (w : Wd D tys (lwA s) s.heap s ws H locs) (hl : lv_has ls 4 [(3, .int (nI i)), (2, .ref y), (1, .ref x), (0, .ref b)]) (hi : i + 3 ≤ L) (hL : L ≤ 1536)
    (d0 : decode cL_law pc = .ok (.aload_n 0, 1)) (d1 : decode cL_law (pc + 1) = .ok (.iload_n 3, 1)) (d2 : decode cL_law (pc + 1 + 1) = .ok (.iconst 1, 1)) (d3 : decode cL_law (pc + 1 + 1 + 1) = .ok (.iadd, 1)) (d4 : decode cL_law (pc + 1 + 1 + 1 + 1) = .ok (.iaload, 1))
    (kk : W p l e R s m args below meth c H locs cells slots Q (F0 m (pc + 1 + 1 + 1 + 1 + 1) ls (.int (xs (i + 1)) :: rest))) : W p l e R s m args below meth c H locs cells slots Q (F0 m pc ls rest) := by
  refine lv_aload_n S.1 S.2.1 d0 rfl (lv_at hl 3 rfl) ?_
  refine lv_iload_n S.1 S.2.1 d1 rfl (lv_at hl 0 rfl) ?_
  refine lv_iconst (v := nI 1) S.1 S.2.1 d2 (by decide) ?_
  refine lv_iadd S.1 S.2.1 d3 ?_
  refine x_eqi (y := nI (i + 1)) (nI_1 i) ?_
  refine va_sld S.1 S.2.1 hX hb (fun z => absurd hb (Nat.not_lt.mpr z)) w.2.2.2.1 (vp_inI (by omega) (by omega)) d4 ?_
  rw [nI_clamp (by omega)]
  exact kk
theorem x_sc2 (S : CallFix p m c cL_law 4 s args wsL_law RL) (hX : va_X b L xs s s.heap) (hb : b < s.heap.size) (w : Wd D tys (lwA s) s.heap s ws H locs) (hl : lv_has ls 4 [(3, .int (nI i)), (2, .ref y), (1, .ref x), (0, .ref b)]) (hi : i + 3 ≤ L) (hL : L ≤ 1536)
    (d0 : decode cL_law pc = .ok (.aload_n 0, 1)) (d1 : decode cL_law (pc + 1) = .ok (.iload_n 3, 1)) (d2 : decode cL_law (pc + 1 + 1) = .ok (.iconst 2, 1)) (d3 : decode cL_law (pc + 1 + 1 + 1) = .ok (.iadd, 1)) (d4 : decode cL_law (pc + 1 + 1 + 1 + 1) = .ok (.iaload, 1))
    (kk : W p l e R s m args below meth c H locs cells slots Q (F0 m (pc + 1 + 1 + 1 + 1 + 1) ls (.int (xs (i + 2)) :: rest))) : W p l e R s m args below meth c H locs cells slots Q (F0 m pc ls rest) := by
  refine lv_aload_n S.1 S.2.1 d0 rfl (lv_at hl 3 rfl) ?_
  refine lv_iload_n S.1 S.2.1 d1 rfl (lv_at hl 0 rfl) ?_
  refine lv_iconst (v := nI 2) S.1 S.2.1 d2 (by decide) ?_
  refine lv_iadd S.1 S.2.1 d3 ?_
  refine x_eqi (y := nI (i + 2)) (nI_2 i) ?_
  refine va_sld S.1 S.2.1 hX hb (fun z => absurd hb (Nat.not_lt.mpr z)) w.2.2.2.1 (vp_inI (by omega) (by omega)) d4 ?_
  rw [nI_clamp (by omega)]
  exact kk
def gd (x : Int32) : Int32 := if x = 0 then 0 else 1
theorem gd_01 (x : Int32) : gd x = 0 ∨ gd x = 1 := by
  unfold gd
  by_cases h : x = 0
  · rw [if_pos h]; exact .inl rfl
  · rw [if_neg h]; exact .inr rfl
/-- x != 0, as javac lays it -/
theorem x_bit (S : CallFix p m c cL_law 4 s args wsL_law RL) {v : Int32} (d0 : decode cL_law pc = .ok (.ifCond .eq 7, 3)) (d1 : decode cL_law (pc + 3) = .ok (.iconst 1, 1)) (d2 : decode cL_law (pc + 3 + 1) = .ok (.goto 4, 3)) (d3 : decode cL_law (pc + 7) = .ok (.iconst 0, 1))
    (kk : W p l e R s m args below meth c H locs cells slots Q (F0 m (pc + 8) ls (.int (gd v) :: rest))) : W p l e R s m args below meth c H locs cells slots Q (F0 m pc ls (.int v :: rest)) := by
  refine lv_if_eq (tgt := pc + 7) S.1 S.2.1 d0 (by omega) (fun h => ?_) (fun h => ?_)
  · refine lv_iconst (v := gd v) S.1 S.2.1 d3 (by unfold gd; rw [if_pos h]; rfl) ?_
    exact kk
  · refine lv_iconst (v := gd v) S.1 S.2.1 d1 (by unfold gd; rw [if_neg h]; rfl) ?_
    refine lv_goto (tgt := pc + 8) S.1 S.2.1 d2 (by omega) ?_
    exact kk
theorem swX {A : Nat → Prop} {H0 : Heap} {a a' : Nat → Nat} {sx sm : Nat → Int32} {fx fm : Nat → Nat → Int32} (w : Wd D tys A H0 s (xW cI cO a sx fx (mW cI cO a' sm fm [])) H locs) : Wd D tys A H0 s (mW cI cO a' sm fm (xW cI cO a sx fx [])) H locs :=
  Wd.swap (a := []) (b := xW cI cO a sx fx []) (d := mW cI cO a' sm fm []) w
theorem swM {A : Nat → Prop} {H0 : Heap} {a a' : Nat → Nat} {sx sm : Nat → Int32} {fx fm : Nat → Nat → Int32} (w : Wd D tys A H0 s (mW cI cO a' sm fm (xW cI cO a sx fx [])) H locs) : Wd D tys A H0 s (xW cI cO a sx fx (mW cI cO a' sm fm [])) H locs :=
  Wd.swap (a := []) (b := mW cI cO a' sm fm []) (d := xW cI cO a sx fx []) w
end LAWB
section RELB
variable {B : Nat} {v : Nat → Nat} {s s' : Nat → Int32} {f f' : Nat → Nat → Int32}
theorem Rel.b2 (h : Rel B v s f s' f') : v 2 ≤ 8 := h.1.2.2.1
theorem Rel.b3 (h : Rel B v s f s' f') : v 3 ≤ 333 := h.1.2.2.2.1
theorem Rel.b4 (h : Rel B v s f s' f') : v 4 ≤ 4 := h.1.2.2.2.2.1
theorem Rel.b5 (h : Rel B v s f s' f') : 1 ≤ v 5 ∧ v 5 ≤ 1000000 := h.1.2.2.2.2.2.1
theorem Rel.b6 (h : Rel B v s f s' f') : 1 ≤ v 6 ∧ v 6 ≤ 10 := h.1.2.2.2.2.2.2.1
theorem Rel.b7 (h : Rel B v s f s' f') : v 7 ≤ 5 := h.1.2.2.2.2.2.2.2.1
theorem Rel.b9 (h : Rel B v s f s' f') : 1 ≤ v 9 ∧ v 9 ≤ 5 := h.1.2.2.2.2.2.2.2.2.1
theorem Rel.b12 (h : Rel B v s f s' f') : v 12 ≤ v 0 := h.1.2.2.2.2.2.2.2.2.2.1
theorem Rel.b17 (h : Rel B v s f s' f') : v 17 ≤ 1000 := h.1.2.2.2.2.2.2.2.2.2.2.1
theorem Rel.b19 (h : Rel B v s f s' f') : v 19 ≤ B := h.1.2.2.2.2.2.2.2.2.2.2.2.1
theorem Rel.rx (h : Rel B v s f s' f') : ¬ s 11 = 0 → v 12 < v 0 := fun z => (h.2.2.1 z).1
theorem Rel.rm (h : Rel B v s f s' f') : ¬ s' 11 = 0 → v 12 < v 0 := fun z => (h.2.2.1 (fun y => z ((h.e 11 (by decide)).trans y))).1
theorem Rel.k19 (h : Rel B v s f s' f') {n : Nat} (hB : B + 60 < 1000000) (hn : n ≤ 21) : v 19 + n < 1000000 := by
  have := h.b19
  omega
end RELB
