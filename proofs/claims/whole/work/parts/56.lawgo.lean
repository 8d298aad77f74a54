section LAWG
variable {p : Program} {l : Launch} {e : Env} {s : State} {m : MethodId} {below : List Frame} {meth : Method} {c : Code} {H : Heap} {locs : List Loc} {cells slots : Nat} {Q : State → Prop} {args : Array Value} 
variable {pc : Nat} {ls : Array Slot} {rest : List Value} {D : va_G} {tys : List (ClassId × FieldType)} {cI cO : ClassId} {ws : va_W} {b L : Nat} {xs : Nat → Int32}
theorem law_go (S : CallFix p m c cL_law 4 s args wsL_law RL) (hex : exN s) (hX : va_X b L xs s s.heap) (hb : b < s.heap.size) (hL : L ≤ 1536) (hl : lv_has ls 4 [(0, .ref b)]) (hEnd : ∀ (ls : Array Slot) (H : Heap), W p l e room_1 s m args below meth c H [] 600000 7302250 Q (F0 m 922 ls [.int 1])) : W p l e room_1 s m args below meth c s.heap [] 0 0 Q (F0 m 0 ls []) := by
  obtain ⟨c0, i0, K0⟩ := u_known (C := RX0) (T := TX0) (N := 4) S.2.2.2.2 inlX0 (S.2.2.2.2 _ lw_instantiable_RX0_4)
  obtain ⟨c1, i1, K1⟩ := u_known (C := RX1) (T := TX1) (N := 4) S.2.2.2.2 inlX1 (S.2.2.2.2 _ lw_instantiable_RX1_4)
  obtain ⟨c2, i2, K2⟩ := u_known (C := RX2) (T := TX2) (N := 3) S.2.2.2.2 inlX2 (S.2.2.2.2 _ lw_instantiable_RX2_3)
  obtain ⟨c3, i3, K3⟩ := u_known (C := RX3) (T := TX3) (N := 11) S.2.2.2.2 inlX3 (S.2.2.2.2 _ lw_instantiable_RX3_11)
  obtain ⟨c4, i4, K4⟩ := u_known (C := RX4) (T := TX4) (N := 16) S.2.2.2.2 inlX4 (S.2.2.2.2 _ lw_instantiable_RX4_16)
  obtain ⟨c5, i5, K5⟩ := u_known (C := RX5) (T := TX5) (N := 33) S.2.2.2.2 inlX5 (S.2.2.2.2 _ lw_instantiable_RX5_33)
  obtain ⟨cI, kA, comp, hfind, hkA, hkind⟩ := Cond.arrayClass_spec (S.2.2.2.2 _ lw_arrayClass__int)
  obtain ⟨D, hD⟩ : ∃ D : va_G, ∀ (k : Nat) (q : vw_C), vwCl[k]? = some q → u_Kn s q.1 q.2.1 q.2.2 (D.1 k) (D.2 k) := by
    refine ⟨(fun k => match k with | 0 => c0 | 1 => c1 | 2 => c2 | 3 => c3 | 4 => c4 | _ => c5, fun k => match k with | 0 => i0 | 1 => i1 | 2 => i2 | 3 => i3 | 4 => i4 | _ => i5), fun k q hq => ?_⟩
    have hk6 : k < 6 := (List.getElem?_eq_some_iff.mp hq).1
    rcases (show k = 0 ∨ k = 1 ∨ k = 2 ∨ k = 3 ∨ k = 4 ∨ k = 5 by omega) with e | e | e | e | e | e
    · subst e
      have z := Option.some.inj (show some (RX0, TX0, 4) = some q from hq)
      subst z
      exact K0
    · subst e
      have z := Option.some.inj (show some (RX1, TX1, 4) = some q from hq)
      subst z
      exact K1
    · subst e
      have z := Option.some.inj (show some (RX2, TX2, 3) = some q from hq)
      subst z
      exact K2
    · subst e
      have z := Option.some.inj (show some (RX3, TX3, 11) = some q from hq)
      subst z
      exact K3
    · subst e
      have z := Option.some.inj (show some (RX4, TX4, 16) = some q from hq)
      subst z
      exact K4
    · subst e
      have z := Option.some.inj (show some (RX5, TX5, 33) = some q from hq)
      subst z
      exact K5
  have w : Wd D [(cI, .int)] (lwA s) s.heap s [] s.heap [] := by
    refine ⟨⟨hD, fun k q hq => ?_⟩, fun k q hq => by simp at hq, ⟨fun i j p q hp => by simp at hp, fun k q hq => by simp at hq⟩, va_S.rf, fun q hq => hq⟩
    have hk1 : k < 1 := (List.getElem?_eq_some_iff.mp hq).1
    have e : k = 0 := by omega
    subst e
    have z := Option.some.inj (show some (cI, FieldType.int) = some q from hq)
    subst z
    exact ⟨fun n z => ⟨fun k h => (by cases h), kA, hkA, comp, hkind⟩, hfind⟩
  refine x_new4 S w lk_RL_7 (Nat.le_of_ble_eq_true rfl) (Nat.le_of_ble_eq_true rfl) dL_law_0 (fun q4 H w => ?_)
  have w : Wd D [(cI, .int)] (lwA s) s.heap s [(q4, .inr (4, [.null, .null, .null, .null, .null, .null, .null, .null, .null, .null, .int 0, .int 0, .int 0, .int 0, .int 0, .int 0]))] H [] := w
  refine lv_dup S.1 S.2.1 dL_law_3 rfl ?_
  refine x_IO (wc := []) (Pc := fun sz => mPX D [(cI, .int)] _ sz _) S w lk_RL_9 ln_RX4 li_X4_init lc_X4_init hd_X4_init rfl (k_X4_init l D cI q4) (fun _ => mPX_blind) (fun U hU hW => ⟨rfl, by rw [hU], by rw [hU]; exact w.2.1, va_K.moved hW.alike w.1, w.2.2.1.weaken (fun _ _ _ _ => trivial), exN.warm hW hex⟩) ⟨(Nat.le_of_ble_eq_true rfl), (Nat.le_of_ble_eq_true rfl)⟩ ⟨rfl, rfl⟩ hl.1 (Nat.le_of_ble_eq_true rfl) ⟨(Nat.le_of_ble_eq_true rfl), (Nat.le_of_ble_eq_true rfl)⟩ dL_law_4 (fun u t H1 locs1 ht hvm hu hB hk1 hS => ?_)
  obtain ⟨hP1, hK1, hD1⟩ := hB
  have w : Wd D (kT cI u.2) (lwA s) s.heap s (xW cI u.2 u.1 xS0 xF0 []) H1 locs1 := ⟨va_K.moved hvm.symm hK1, by rw [← ht]; exact hP1, hD1.weaken (fun k q _ h9 => wd_own w q.1 h9), hS, w.2.2.2.2⟩
  refine x_eqr hu.symm ?_
  refine lv_astore_n (lv' := [(1, .ref (u.1 0)), (0, .ref b)]) S.1 S.2.1 dL_law_7 rfl hl (by decide) rfl (fun ls hl => ?_)
  refine x_new5 S w lk_RL_10 (Nat.le_of_ble_eq_true rfl) (Nat.le_of_ble_eq_true rfl) dL_law_8 (fun q5 H w => ?_)
  have w : Wd D (kT cI u.2) (lwA s) s.heap s ((q5, .inr (5, [.int 0, .null, .null, .int 0, .int 0, .int 0, .int 0, .int 0, .int 0, .int 0, .int 0, .int 0, .int 0, .int 0, .int 0, .int 0, .int 0, .int 0, .int 0, .int 0, .null, .null, .null, .null, .null, .null, .null, .int 0, .int 0, .null, .null, .int 0, .int 0])) :: xW cI u.2 u.1 xS0 xF0 []) H locs1 := Wd.swap (a := []) (b := xW cI u.2 u.1 xS0 xF0 []) (d := [(q5, .inr (5, [.int 0, .null, .null, .int 0, .int 0, .int 0, .int 0, .int 0, .int 0, .int 0, .int 0, .int 0, .int 0, .int 0, .int 0, .int 0, .int 0, .int 0, .int 0, .int 0, .null, .null, .null, .null, .null, .null, .null, .int 0, .int 0, .null, .null, .int 0, .int 0]))]) w
  refine lv_dup S.1 S.2.1 dL_law_11 rfl ?_
  refine x_IO (wc := []) (Pc := fun sz => mP D (kT cI u.2) _ sz _) S w lk_RL_12 ln_RX5 li_X5_init lc_X5_init hd_X5_init rfl (k_X5_init l D cI u.2 q5 _) (fun _ => mP_blind) (fun U hU hW => ⟨rfl, by rw [hU], by rw [hU]; exact w.2.1, va_K.moved hW.alike w.1, w.2.2.1.weaken (fun _ _ _ _ => trivial)⟩) ⟨(Nat.le_of_ble_eq_true rfl), (Nat.le_of_ble_eq_true rfl)⟩ ⟨rfl, rfl⟩ hl.1 (Nat.le_of_ble_eq_true rfl) ⟨(Nat.le_of_ble_eq_true rfl), (Nat.le_of_ble_eq_true rfl)⟩ dL_law_12 (fun u5 t H2 locs2 ht hvm hu5 hB hk1 hS => ?_)
  obtain ⟨hP1, hK1, hD1⟩ := hB
  have w : Wd D (kT cI u.2) (lwA s) s.heap s (mW cI u.2 u5 mS0 mF0 (xW cI u.2 u.1 xS0 xF0 [])) H2 locs2 := ⟨va_K.moved hvm.symm hK1, by rw [← ht]; exact hP1, hD1.weaken (fun k q _ h9 => wd_own w q.1 h9), hS, w.2.2.2.2⟩
  refine x_eqr hu5.symm ?_
  refine lv_astore_n (lv' := [(2, .ref (u5 0)), (1, .ref (u.1 0)), (0, .ref b)]) S.1 S.2.1 dL_law_15 rfl hl (by decide) rfl (fun ls hl => ?_)
  refine lv_iconst (v := nI 0) S.1 S.2.1 dL_law_16 (by decide) ?_
  refine lv_istore_n (lv' := [(3, .int (nI 0)), (2, .ref (u5 0)), (1, .ref (u.1 0)), (0, .ref b)]) S.1 S.2.1 dL_law_17 rfl hl (by decide) rfl (fun ls hl => ?_)
  refine W.widen (k := 600000) (n := 7302250) (Nat.le_of_ble_eq_true rfl) (Nat.le_of_ble_eq_true rfl) ?_
  exact law_loop S hX hb hL hEnd L 0 (v0 16) xS0 xF0 mS0 mF0 ls H2 locs2 (by omega) (Nat.zero_le L) hl rel_first (swM w)
end LAWG
