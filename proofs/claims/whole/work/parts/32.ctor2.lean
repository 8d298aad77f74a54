theorem app_get {ws l : va_W} {q : Nat} {x : Nat × va_E} (h : ws[q]? = some x) : (ws ++ l)[q]? = some x := by
  rw [List.getElem?_append_left (List.getElem?_eq_some_iff.mp h).1]
  exact h
theorem set_get {ws : va_W} {q : Nat} {x y : Nat × va_E} (h : ws[q]? = some x) : (ws.set q y)[q]? = some y := List.getElem?_set_self (List.getElem?_eq_some_iff.mp h).1
set_option maxHeartbeats 4000000 in
set_option maxRecDepth 100000 in
theorem k_X3_init (l : Launch) (D : va_G) (tys : List (ClassId × FieldType)) (ws : va_W) (h : Nat) : Mv l yX3_init cX3_init 1 none { frames := 1, cells := 0, slots := 0, locals := 12 } D tys ws [.ref h] ws := by
  intro sz
  refine ent (by decide +kernel) (Nat.le_of_ble_eq_true rfl) ?_
  intro p e st m below meth c ls S hr hlk hnm w hsz hl
  have hl : lv_has ls 1 [(0, .ref h)] := hl
  refine lv_aload_n S.1 S.2.1 dX3_init_0 rfl (lv_at hl 0 rfl) ?_
  refine x_obj S lk_RX3_3 hl.1 (Nat.le_of_ble_eq_true rfl) (Nat.le_of_ble_eq_true rfl) dX3_init_1 ?_
  exact x_retv S w hr hlk dX3_init_4 rfl
set_option maxHeartbeats 4000000 in
set_option maxRecDepth 100000 in
theorem k_X2_init (l : Launch) (D : va_G) (tys : List (ClassId × FieldType)) (cI : ClassId) (t0 : Nat) (ht : tys[t0]? = some (cI, .int)) (ws : va_W) (q0 h : Nat) (hq : ws[q0]? = some (h, .inr (2, [.null, .int 0, .int 0]))) : ∀ sz, Met l yX2_init (wM yX2_init cX2_init 1 none) { frames := 1, cells := 1, slots := 6, locals := 12 } (mP D tys ws sz [.ref h]) (va_Qv (S := Nat) (fun _ => True) (fun u t => mB D tys ws sz ((ws ++ ([(u, .inl (cI, 6, .inl (fun _ => 0)))] : va_W)).set q0 (h, .inr (2, [.ref u, .int 0, .int 0]))) t) (va_A ws sz)) 1 6 (va_A ws sz) := by
  intro sz
  refine ent (by decide +kernel) (Nat.le_of_ble_eq_true rfl) ?_
  intro p e st m below meth c ls S hr hlk hnm w hsz hl
  have hl : lv_has ls 1 [(0, .ref h)] := hl
  refine lv_aload_n S.1 S.2.1 dX2_init_0 rfl (lv_at hl 0 rfl) ?_
  refine x_obj S lk_RX2_1 hl.1 (Nat.le_of_ble_eq_true rfl) (Nat.le_of_ble_eq_true rfl) dX2_init_1 ?_
  refine lv_aload_n S.1 S.2.1 dX2_init_4 rfl (lv_at hl 0 rfl) ?_
  refine lv_bipush (v := 6) S.1 S.2.1 dX2_init_5 (by decide) ?_
  refine x_newI S w t0 ht 6 rfl (by decide) (Nat.le_of_ble_eq_true rfl) (Nat.le_of_ble_eq_true rfl) dX2_init_7 (fun u H1 w => ?_)
  refine x_putF2 S hnm w q0 (fs := [.null, .int 0, .int 0]) (app_get hq) 0 (by decide) lk_RX2_9 rfl rfl (v := .ref u) rfl rfl (Nat.le_of_ble_eq_true rfl) rfl dX2_init_9 (fun H locs w => ?_)
  obtain ⟨hK, hP, hD, hS, hA⟩ := w
  exact W.vret S.1 S.2.1 hr (fun t ht hW => ⟨⟨u, rfl, trivial, by rw [ht]; exact hP, va_K.moved hW.alike hK, hD⟩, hS.F ht⟩) hS.2.2 dX2_init_12 hlk
set_option maxHeartbeats 4000000 in
set_option maxRecDepth 100000 in
theorem k_X0_init (l : Launch) (D : va_G) (tys : List (ClassId × FieldType)) (cI : ClassId) (t0 : Nat) (ht : tys[t0]? = some (cI, .int)) (ws : va_W) (q0 h : Nat) (hq : ws[q0]? = some (h, .inr (0, [.null, .int 0, .int 0, .int 0]))) : ∀ sz, Met l yX0_init (wM yX0_init cX0_init 1 none) { frames := 1, cells := 1, slots := 48, locals := 12 } (mP D tys ws sz [.ref h]) (va_Qv (S := Nat) (fun _ => True) (fun u t => mB D tys ws sz ((ws ++ ([(u, .inl (cI, 48, .inl (fun _ => 0)))] : va_W)).set q0 (h, .inr (0, [.ref u, .int 0, .int 0, .int 0]))) t) (va_A ws sz)) 1 48 (va_A ws sz) := by
  intro sz
  refine ent (by decide +kernel) (Nat.le_of_ble_eq_true rfl) ?_
  intro p e st m below meth c ls S hr hlk hnm w hsz hl
  have hl : lv_has ls 1 [(0, .ref h)] := hl
  refine lv_aload_n S.1 S.2.1 dX0_init_0 rfl (lv_at hl 0 rfl) ?_
  refine x_obj S lk_RX0_3 hl.1 (Nat.le_of_ble_eq_true rfl) (Nat.le_of_ble_eq_true rfl) dX0_init_1 ?_
  refine lv_aload_n S.1 S.2.1 dX0_init_4 rfl (lv_at hl 0 rfl) ?_
  refine lv_bipush (v := 48) S.1 S.2.1 dX0_init_5 (by decide) ?_
  refine x_newI S w t0 ht 48 rfl (by decide) (Nat.le_of_ble_eq_true rfl) (Nat.le_of_ble_eq_true rfl) dX0_init_7 (fun u H1 w => ?_)
  refine x_putF0 S hnm w q0 (fs := [.null, .int 0, .int 0, .int 0]) (app_get hq) 0 (by decide) lk_RX0_9 rfl rfl (v := .ref u) rfl rfl (Nat.le_of_ble_eq_true rfl) rfl dX0_init_9 (fun H locs w => ?_)
  obtain ⟨hK, hP, hD, hS, hA⟩ := w
  exact W.vret S.1 S.2.1 hr (fun t ht hW => ⟨⟨u, rfl, trivial, by rw [ht]; exact hP, va_K.moved hW.alike hK, hD⟩, hS.F ht⟩) hS.2.2 dX0_init_12 hlk
/-- the history's cells -/
def hiW (cI cO : ClassId) (ws : va_W) (q0 h u1 u2 u3 : Nat) (r : Nat → Nat) : va_W := ((((((ws ++ ([(u1, .inl (cO, 5, .inr (.inr (.inr (.inr (fun i => if i < 5 then some (r i) else none))))))] : va_W)) ++ ([(r 0, .inl (cI, 48, .inl (fun _ => 0))), (r 1, .inl (cI, 48, .inl (fun _ => 0))), (r 2, .inl (cI, 48, .inl (fun _ => 0))), (r 3, .inl (cI, 48, .inl (fun _ => 0))), (r 4, .inl (cI, 48, .inl (fun _ => 0)))] : va_W)).set q0 (h, .inr (1, [.ref u1, .null, .null, .int 0]))) ++ ([(u2, .inl (cI, 5, .inl (fun _ => 0)))] : va_W)).set q0 (h, .inr (1, [.ref u1, .ref u2, .null, .int 0]))) ++ ([(u3, .inl (cI, 5, .inl (fun _ => 0)))] : va_W)).set q0 (h, .inr (1, [.ref u1, .ref u2, .ref u3, .int 0]))
set_option maxHeartbeats 4000000 in
set_option maxRecDepth 100000 in
theorem k_X1_init (l : Launch) (D : va_G) (tys : List (ClassId × FieldType)) (cI : ClassId) (t0 : Nat) (ht : tys[t0]? = some (cI, .int)) (ws : va_W) (q0 h : Nat) (hq : ws[q0]? = some (h, .inr (1, [.null, .null, .null, .int 0]))) : ∀ sz, Met l yX1_init (wM yX1_init cX1_init 1 none) { frames := 1, cells := 8, slots := 255, locals := 12 } (mPX D tys ws sz [.ref h]) (va_Qv (S := Nat × Nat × Nat × (Nat → Nat) × ClassId) (fun _ => True) (fun u t => mB D (tys ++ [(u.2.2.2.2, .array .int)]) ws sz (hiW cI u.2.2.2.2 ws q0 h u.1 u.2.1 u.2.2.1 u.2.2.2.1) t) (va_A ws sz)) 8 255 (va_A ws sz) := by
  intro sz
  refine entX (by decide +kernel) (Nat.le_of_ble_eq_true rfl) ?_
  intro p e st m below meth c ls S hr hlk hnm w hsz hX hl
  have hl : lv_has ls 1 [(0, .ref h)] := hl
  refine lv_aload_n S.1 S.2.1 dX1_init_0 rfl (lv_at hl 0 rfl) ?_
  refine x_obj S lk_RX1_3 hl.1 (Nat.le_of_ble_eq_true rfl) (Nat.le_of_ble_eq_true rfl) dX1_init_1 ?_
  refine lv_aload_n S.1 S.2.1 dX1_init_4 rfl (lv_at hl 0 rfl) ?_
  refine lv_iconst (v := 5) S.1 S.2.1 dX1_init_5 (by decide) ?_
  refine lv_bipush (v := 48) S.1 S.2.1 dX1_init_6 (by decide) ?_
  refine x_mna S w hX.2.2.2.2 t0 ht lk_RX1_11 (Nat.le_of_ble_eq_true rfl) (Nat.le_of_ble_eq_true rfl) dX1_init_8 (fun u1 r cO H w => ?_)
  have ht2 : (tys ++ [(cO, FieldType.array .int)])[t0]? = some (cI, .int) := by
    rw [List.getElem?_append_left (List.getElem?_eq_some_iff.mp ht).1]; exact ht
  refine x_putF1 S hnm w q0 (fs := [.null, .null, .null, .int 0]) (app_get (app_get hq)) 0 (by decide) lk_RX1_13 rfl rfl (v := .ref u1) rfl rfl (Nat.le_of_ble_eq_true rfl) rfl dX1_init_12 (fun H locs w => ?_)
  have hq2 := set_get (y := (h, .inr (1, [.ref u1, .null, .null, .int 0]))) (app_get (l := [(r 0, .inl (cI, 48, .inl (fun _ => 0))), (r 1, .inl (cI, 48, .inl (fun _ => 0))), (r 2, .inl (cI, 48, .inl (fun _ => 0))), (r 3, .inl (cI, 48, .inl (fun _ => 0))), (r 4, .inl (cI, 48, .inl (fun _ => 0)))]) (app_get (l := [(u1, .inl (cO, 5, .inr (.inr (.inr (.inr (fun i => if i < 5 then some (r i) else none))))))]) hq))
  refine lv_aload_n S.1 S.2.1 dX1_init_15 rfl (lv_at hl 0 rfl) ?_
  refine lv_iconst (v := 5) S.1 S.2.1 dX1_init_16 (by decide) ?_
  refine x_newI S w t0 ht2 5 rfl (by decide) (Nat.le_of_ble_eq_true rfl) (Nat.le_of_ble_eq_true rfl) dX1_init_17 (fun u2 H w => ?_)
  refine x_putF1 S hnm w q0 (fs := [.ref u1, .null, .null, .int 0]) (app_get hq2) 1 (by decide) lk_RX1_16 rfl rfl (v := .ref u2) rfl rfl (Nat.le_of_ble_eq_true rfl) rfl dX1_init_19 (fun H locs w => ?_)
  have hq3 := set_get (y := (h, .inr (1, [.ref u1, .ref u2, .null, .int 0]))) (app_get (l := [(u2, .inl (cI, 5, .inl (fun _ => 0)))]) hq2)
  refine lv_aload_n S.1 S.2.1 dX1_init_22 rfl (lv_at hl 0 rfl) ?_
  refine lv_iconst (v := 5) S.1 S.2.1 dX1_init_23 (by decide) ?_
  refine x_newI S w t0 ht2 5 rfl (by decide) (Nat.le_of_ble_eq_true rfl) (Nat.le_of_ble_eq_true rfl) dX1_init_24 (fun u3 H w => ?_)
  refine x_putF1 S hnm w q0 (fs := [.ref u1, .ref u2, .null, .int 0]) (app_get hq3) 2 (by decide) lk_RX1_20 rfl rfl (v := .ref u3) rfl rfl (Nat.le_of_ble_eq_true rfl) rfl dX1_init_26 (fun H locs w => ?_)
  obtain ⟨hK, hP, hD, hS, hA⟩ := w
  exact W.vret S.1 S.2.1 hr (fun t ht hW => ⟨⟨(u1, u2, u3, r, cO), rfl, trivial, by rw [ht]; exact hP, va_K.moved hW.alike hK, hD⟩, hS.F ht⟩) hS.2.2 dX1_init_29 hlk
/-- the addresses of an object's cells -/
def adX (l : List Nat) (r : Nat → Nat) : Nat → Nat := fun i => if i < 16 then l.getD i 0 else r (i - 16)
theorem adX_16 (l : List Nat) (r : Nat → Nat) (i : Nat) : adX l r (16 + i) = r i := by
  unfold adX
  rw [if_neg (by omega)]
  congr 1
  omega
def xS0 : Nat → Int32 := (o_X4_startAnew (fun _ => 0) (fun _ _ => 0) 16).1
def xF0 : Nat → Nat → Int32 := (o_X4_startAnew (fun _ => 0) (fun _ _ => 0) 16).2
set_option maxHeartbeats 4000000 in
set_option maxRecDepth 100000 in
theorem k_X4_init (l : Launch) (D : va_G) (cI : ClassId) (h : Nat) : ∀ sz, Met l yX4_init (wM yX4_init cX4_init 1 none) { frames := 3, cells := 20, slots := 619, locals := 66 } (mPX D [(cI, .int)] [(h, .inr (4, [.null, .null, .null, .null, .null, .null, .null, .null, .null, .null, .int 0, .int 0, .int 0, .int 0, .int 0, .int 0]))] sz [.ref h]) (va_Qv (S := (Nat → Nat) × ClassId) (fun u => u.1 0 = h) (fun u t => mB D (kT cI u.2) [(h, .inr (4, [.null, .null, .null, .null, .null, .null, .null, .null, .null, .null, .int 0, .int 0, .int 0, .int 0, .int 0, .int 0]))] sz (xW cI u.2 u.1 xS0 xF0 []) t) (va_A [(h, .inr (4, [.null, .null, .null, .null, .null, .null, .null, .null, .null, .null, .int 0, .int 0, .int 0, .int 0, .int 0, .int 0]))] sz)) 20 619 (va_A [(h, .inr (4, [.null, .null, .null, .null, .null, .null, .null, .null, .null, .null, .int 0, .int 0, .int 0, .int 0, .int 0, .int 0]))] sz) := by
  intro sz
  refine entX (by decide +kernel) (Nat.le_of_ble_eq_true rfl) ?_
  intro p e st m below meth c ls S hr hlk hnm w hsz hX hl
  have hl : lv_has ls 1 [(0, .ref h)] := hl
  refine lv_aload_n S.1 S.2.1 dX4_init_0 rfl (lv_at hl 0 rfl) ?_
  refine x_obj S lk_RX4_1 hl.1 (Nat.le_of_ble_eq_true rfl) (Nat.le_of_ble_eq_true rfl) dX4_init_1 ?_
  refine lv_aload_n S.1 S.2.1 dX4_init_4 rfl (lv_at hl 0 rfl) ?_
  refine x_new3 S w lk_RX4_7 (Nat.le_of_ble_eq_true rfl) (Nat.le_of_ble_eq_true rfl) dX4_init_5 (fun q1 H w => ?_)
  refine lv_dup S.1 S.2.1 dX4_init_8 rfl ?_
  refine x_IN (Pc := fun sz => mP D [(cI, .int)] _ sz _) S w hX.1 ln_RX3 li_X3_init lc_X3_init hd_X3_init rfl (fun sz => k_X3_init l D [(cI, .int)] _ q1 sz) (fun _ => mP_blind) (fun U hU hW => ⟨rfl, by rw [hU], by rw [hU]; exact w.2.1, va_K.moved hW.alike w.1, w.2.2.1.weaken (fun _ _ _ _ => trivial)⟩) ⟨(Nat.le_of_ble_eq_true rfl), (Nat.le_of_ble_eq_true rfl)⟩ ⟨rfl, rfl⟩ hl.1 (Nat.le_of_ble_eq_true rfl) ⟨(Nat.le_of_ble_eq_true rfl), (Nat.le_of_ble_eq_true rfl)⟩ dX4_init_9 (fun u0 t H1 locs1 ht hvm _ hB hk1 hS => ?_)
  obtain ⟨hP1, hK1, hD1⟩ := hB
  rw [ht] at hP1
  have w : Wd D [(cI, .int)] (va_A _ _) _ _ [(h, .inr (4, [.null, .null, .null, .null, .null, .null, .null, .null, .null, .null, .int 0, .int 0, .int 0, .int 0, .int 0, .int 0])), (q1, .inr (3, [.int 0, .int 0, .int 0, .int 0, .int 0, .int 0, .int 0, .int 0, .int 0, .int 0, .int 0]))] H1 locs1 := ⟨va_K.moved hvm.symm hK1, hP1, hD1.weaken (fun k q _ h9 => wd_own w q.1 h9), hS, w.2.2.2.2⟩
  refine x_putF4 S hnm w 0 (fs := [.null, .null, .null, .null, .null, .null, .null, .null, .null, .null, .int 0, .int 0, .int 0, .int 0, .int 0, .int 0]) rfl 0 (by decide) lk_RX4_10 rfl rfl (v := .ref q1) rfl rfl (Nat.le_of_ble_eq_true rfl) rfl dX4_init_12 (fun H locs (w : Wd D [(cI, .int)] (va_A _ _) _ _ [(h, .inr (4, [.ref q1, .null, .null, .null, .null, .null, .null, .null, .null, .null, .int 0, .int 0, .int 0, .int 0, .int 0, .int 0])), (q1, .inr (3, [.int 0, .int 0, .int 0, .int 0, .int 0, .int 0, .int 0, .int 0, .int 0, .int 0, .int 0]))] H locs) => ?_)
  refine lv_aload_n S.1 S.2.1 dX4_init_15 rfl (lv_at hl 0 rfl) ?_
  refine x_new2 S w lk_RX4_16 (Nat.le_of_ble_eq_true rfl) (Nat.le_of_ble_eq_true rfl) dX4_init_16 (fun q2 H w => ?_)
  refine lv_dup S.1 S.2.1 dX4_init_19 rfl ?_
  refine x_IN (Pc := fun sz => mP D [(cI, .int)] _ sz _) S w hX.2.1 ln_RX2 li_X2_init lc_X2_init hd_X2_init rfl (k_X2_init l D [(cI, .int)] cI 0 rfl _ 2 q2 rfl) (fun _ => mP_blind) (fun U hU hW => ⟨rfl, by rw [hU], by rw [hU]; exact w.2.1, va_K.moved hW.alike w.1, w.2.2.1.weaken (fun _ _ _ _ => trivial)⟩) ⟨(Nat.le_of_ble_eq_true rfl), (Nat.le_of_ble_eq_true rfl)⟩ ⟨rfl, rfl⟩ hl.1 (Nat.le_of_ble_eq_true rfl) ⟨(Nat.le_of_ble_eq_true rfl), (Nat.le_of_ble_eq_true rfl)⟩ dX4_init_20 (fun q3 t H1 locs1 ht hvm _ hB hk1 hS => ?_)
  obtain ⟨hP1, hK1, hD1⟩ := hB
  rw [ht] at hP1
  have w : Wd D [(cI, .int)] (va_A _ _) _ _ [(h, .inr (4, [.ref q1, .null, .null, .null, .null, .null, .null, .null, .null, .null, .int 0, .int 0, .int 0, .int 0, .int 0, .int 0])), (q1, .inr (3, [.int 0, .int 0, .int 0, .int 0, .int 0, .int 0, .int 0, .int 0, .int 0, .int 0, .int 0])), (q2, .inr (2, [.ref q3, .int 0, .int 0])), (q3, .inl (cI, 6, .inl (fun _ => 0)))] H1 locs1 := ⟨va_K.moved hvm.symm hK1, hP1, hD1.weaken (fun k q _ h9 => wd_own w q.1 h9), hS, w.2.2.2.2⟩
  refine x_putF4 S hnm w 0 (fs := [.ref q1, .null, .null, .null, .null, .null, .null, .null, .null, .null, .int 0, .int 0, .int 0, .int 0, .int 0, .int 0]) rfl 1 (by decide) lk_RX4_19 rfl rfl (v := .ref q2) rfl rfl (Nat.le_of_ble_eq_true rfl) rfl dX4_init_23 (fun H locs (w : Wd D [(cI, .int)] (va_A _ _) _ _ [(h, .inr (4, [.ref q1, .ref q2, .null, .null, .null, .null, .null, .null, .null, .null, .int 0, .int 0, .int 0, .int 0, .int 0, .int 0])), (q1, .inr (3, [.int 0, .int 0, .int 0, .int 0, .int 0, .int 0, .int 0, .int 0, .int 0, .int 0, .int 0])), (q2, .inr (2, [.ref q3, .int 0, .int 0])), (q3, .inl (cI, 6, .inl (fun _ => 0)))] H locs) => ?_)
  refine lv_aload_n S.1 S.2.1 dX4_init_26 rfl (lv_at hl 0 rfl) ?_
  refine x_new1 S w lk_RX4_23 (Nat.le_of_ble_eq_true rfl) (Nat.le_of_ble_eq_true rfl) dX4_init_27 (fun q4 H w => ?_)
  refine lv_dup S.1 S.2.1 dX4_init_30 rfl ?_
  refine x_IN (Pc := fun sz => mPX D [(cI, .int)] _ sz _) S w hX.2.2.1 ln_RX1 li_X1_init lc_X1_init hd_X1_init rfl (k_X1_init l D [(cI, .int)] cI 0 rfl _ 4 q4 rfl) (fun _ => mPX_blind) (fun U hU hW => ⟨rfl, by rw [hU], by rw [hU]; exact w.2.1, va_K.moved hW.alike w.1, w.2.2.1.weaken (fun _ _ _ _ => trivial), exN.warm hW hX⟩) ⟨(Nat.le_of_ble_eq_true rfl), (Nat.le_of_ble_eq_true rfl)⟩ ⟨rfl, rfl⟩ hl.1 (Nat.le_of_ble_eq_true rfl) ⟨(Nat.le_of_ble_eq_true rfl), (Nat.le_of_ble_eq_true rfl)⟩ dX4_init_31 (fun u t H1 locs1 ht hvm _ hB hk1 hS => ?_)
  obtain ⟨u1, u2, u3, r, cO⟩ := u
  obtain ⟨hP1, hK1, hD1⟩ := hB
  rw [ht] at hP1
  have w : Wd D (kT cI cO) (va_A _ _) _ _ [(h, .inr (4, [.ref q1, .ref q2, .null, .null, .null, .null, .null, .null, .null, .null, .int 0, .int 0, .int 0, .int 0, .int 0, .int 0])), (q1, .inr (3, [.int 0, .int 0, .int 0, .int 0, .int 0, .int 0, .int 0, .int 0, .int 0, .int 0, .int 0])), (q2, .inr (2, [.ref q3, .int 0, .int 0])), (q3, .inl (cI, 6, .inl (fun _ => 0))), (q4, .inr (1, [.ref u1, .ref u2, .ref u3, .int 0])), (u1, .inl (cO, 5, .inr (.inr (.inr (.inr (fun i => if i < 5 then some (r i) else none)))))), ((r 0), .inl (cI, 48, .inl (fun _ => 0))), ((r 1), .inl (cI, 48, .inl (fun _ => 0))), ((r 2), .inl (cI, 48, .inl (fun _ => 0))), ((r 3), .inl (cI, 48, .inl (fun _ => 0))), ((r 4), .inl (cI, 48, .inl (fun _ => 0))), (u2, .inl (cI, 5, .inl (fun _ => 0))), (u3, .inl (cI, 5, .inl (fun _ => 0)))] H1 locs1 := ⟨va_K.moved hvm.symm hK1, hP1, hD1.weaken (fun k q _ h9 => wd_own w q.1 h9), hS, w.2.2.2.2⟩
  refine x_putF4 S hnm w 0 (fs := [.ref q1, .ref q2, .null, .null, .null, .null, .null, .null, .null, .null, .int 0, .int 0, .int 0, .int 0, .int 0, .int 0]) rfl 2 (by decide) lk_RX4_26 rfl rfl (v := .ref q4) rfl rfl (Nat.le_of_ble_eq_true rfl) rfl dX4_init_34 (fun H locs (w : Wd D (kT cI cO) (va_A _ _) _ _ [(h, .inr (4, [.ref q1, .ref q2, .ref q4, .null, .null, .null, .null, .null, .null, .null, .int 0, .int 0, .int 0, .int 0, .int 0, .int 0])), (q1, .inr (3, [.int 0, .int 0, .int 0, .int 0, .int 0, .int 0, .int 0, .int 0, .int 0, .int 0, .int 0])), (q2, .inr (2, [.ref q3, .int 0, .int 0])), (q3, .inl (cI, 6, .inl (fun _ => 0))), (q4, .inr (1, [.ref u1, .ref u2, .ref u3, .int 0])), (u1, .inl (cO, 5, .inr (.inr (.inr (.inr (fun i => if i < 5 then some (r i) else none)))))), ((r 0), .inl (cI, 48, .inl (fun _ => 0))), ((r 1), .inl (cI, 48, .inl (fun _ => 0))), ((r 2), .inl (cI, 48, .inl (fun _ => 0))), ((r 3), .inl (cI, 48, .inl (fun _ => 0))), ((r 4), .inl (cI, 48, .inl (fun _ => 0))), (u2, .inl (cI, 5, .inl (fun _ => 0))), (u3, .inl (cI, 5, .inl (fun _ => 0)))] H locs) => ?_)
  refine lv_aload_n S.1 S.2.1 dX4_init_37 rfl (lv_at hl 0 rfl) ?_
  refine x_new0 S w lk_RX4_30 (Nat.le_of_ble_eq_true rfl) (Nat.le_of_ble_eq_true rfl) dX4_init_38 (fun q5 H w => ?_)
  refine lv_dup S.1 S.2.1 dX4_init_41 rfl ?_
  refine x_IN (Pc := fun sz => mP D (kT cI cO) _ sz _) S w hX.2.2.2.1 ln_RX0 li_X0_init lc_X0_init hd_X0_init rfl (k_X0_init l D (kT cI cO) cI 0 rfl _ 13 q5 rfl) (fun _ => mP_blind) (fun U hU hW => ⟨rfl, by rw [hU], by rw [hU]; exact w.2.1, va_K.moved hW.alike w.1, w.2.2.1.weaken (fun _ _ _ _ => trivial)⟩) ⟨(Nat.le_of_ble_eq_true rfl), (Nat.le_of_ble_eq_true rfl)⟩ ⟨rfl, rfl⟩ hl.1 (Nat.le_of_ble_eq_true rfl) ⟨(Nat.le_of_ble_eq_true rfl), (Nat.le_of_ble_eq_true rfl)⟩ dX4_init_42 (fun q6 t H1 locs1 ht hvm _ hB hk1 hS => ?_)
  obtain ⟨hP1, hK1, hD1⟩ := hB
  rw [ht] at hP1
  have w : Wd D (kT cI cO) (va_A _ _) _ _ [(h, .inr (4, [.ref q1, .ref q2, .ref q4, .null, .null, .null, .null, .null, .null, .null, .int 0, .int 0, .int 0, .int 0, .int 0, .int 0])), (q1, .inr (3, [.int 0, .int 0, .int 0, .int 0, .int 0, .int 0, .int 0, .int 0, .int 0, .int 0, .int 0])), (q2, .inr (2, [.ref q3, .int 0, .int 0])), (q3, .inl (cI, 6, .inl (fun _ => 0))), (q4, .inr (1, [.ref u1, .ref u2, .ref u3, .int 0])), (u1, .inl (cO, 5, .inr (.inr (.inr (.inr (fun i => if i < 5 then some (r i) else none)))))), ((r 0), .inl (cI, 48, .inl (fun _ => 0))), ((r 1), .inl (cI, 48, .inl (fun _ => 0))), ((r 2), .inl (cI, 48, .inl (fun _ => 0))), ((r 3), .inl (cI, 48, .inl (fun _ => 0))), ((r 4), .inl (cI, 48, .inl (fun _ => 0))), (u2, .inl (cI, 5, .inl (fun _ => 0))), (u3, .inl (cI, 5, .inl (fun _ => 0))), (q5, .inr (0, [.ref q6, .int 0, .int 0, .int 0])), (q6, .inl (cI, 48, .inl (fun _ => 0)))] H1 locs1 := ⟨va_K.moved hvm.symm hK1, hP1, hD1.weaken (fun k q _ h9 => wd_own w q.1 h9), hS, w.2.2.2.2⟩
  refine x_putF4 S hnm w 0 (fs := [.ref q1, .ref q2, .ref q4, .null, .null, .null, .null, .null, .null, .null, .int 0, .int 0, .int 0, .int 0, .int 0, .int 0]) rfl 3 (by decide) lk_RX4_33 rfl rfl (v := .ref q5) rfl rfl (Nat.le_of_ble_eq_true rfl) rfl dX4_init_45 (fun H locs (w : Wd D (kT cI cO) (va_A _ _) _ _ [(h, .inr (4, [.ref q1, .ref q2, .ref q4, .ref q5, .null, .null, .null, .null, .null, .null, .int 0, .int 0, .int 0, .int 0, .int 0, .int 0])), (q1, .inr (3, [.int 0, .int 0, .int 0, .int 0, .int 0, .int 0, .int 0, .int 0, .int 0, .int 0, .int 0])), (q2, .inr (2, [.ref q3, .int 0, .int 0])), (q3, .inl (cI, 6, .inl (fun _ => 0))), (q4, .inr (1, [.ref u1, .ref u2, .ref u3, .int 0])), (u1, .inl (cO, 5, .inr (.inr (.inr (.inr (fun i => if i < 5 then some (r i) else none)))))), ((r 0), .inl (cI, 48, .inl (fun _ => 0))), ((r 1), .inl (cI, 48, .inl (fun _ => 0))), ((r 2), .inl (cI, 48, .inl (fun _ => 0))), ((r 3), .inl (cI, 48, .inl (fun _ => 0))), ((r 4), .inl (cI, 48, .inl (fun _ => 0))), (u2, .inl (cI, 5, .inl (fun _ => 0))), (u3, .inl (cI, 5, .inl (fun _ => 0))), (q5, .inr (0, [.ref q6, .int 0, .int 0, .int 0])), (q6, .inl (cI, 48, .inl (fun _ => 0)))] H locs) => ?_)
  refine lv_aload_n S.1 S.2.1 dX4_init_48 rfl (lv_at hl 0 rfl) ?_
  refine lv_bipush (v := 48) S.1 S.2.1 dX4_init_49 (by decide) ?_
  refine x_newI S w 0 rfl 48 rfl (by decide) (Nat.le_of_ble_eq_true rfl) (Nat.le_of_ble_eq_true rfl) dX4_init_51 (fun b0 H w => ?_)
  refine x_putF4 S hnm w 0 (fs := [.ref q1, .ref q2, .ref q4, .ref q5, .null, .null, .null, .null, .null, .null, .int 0, .int 0, .int 0, .int 0, .int 0, .int 0]) rfl 4 (by decide) lk_RX4_37 rfl rfl (v := .ref b0) rfl rfl (Nat.le_of_ble_eq_true rfl) rfl dX4_init_53 (fun H locs (w : Wd D (kT cI cO) (va_A _ _) _ _ [(h, .inr (4, [.ref q1, .ref q2, .ref q4, .ref q5, .ref b0, .null, .null, .null, .null, .null, .int 0, .int 0, .int 0, .int 0, .int 0, .int 0])), (q1, .inr (3, [.int 0, .int 0, .int 0, .int 0, .int 0, .int 0, .int 0, .int 0, .int 0, .int 0, .int 0])), (q2, .inr (2, [.ref q3, .int 0, .int 0])), (q3, .inl (cI, 6, .inl (fun _ => 0))), (q4, .inr (1, [.ref u1, .ref u2, .ref u3, .int 0])), (u1, .inl (cO, 5, .inr (.inr (.inr (.inr (fun i => if i < 5 then some (r i) else none)))))), ((r 0), .inl (cI, 48, .inl (fun _ => 0))), ((r 1), .inl (cI, 48, .inl (fun _ => 0))), ((r 2), .inl (cI, 48, .inl (fun _ => 0))), ((r 3), .inl (cI, 48, .inl (fun _ => 0))), ((r 4), .inl (cI, 48, .inl (fun _ => 0))), (u2, .inl (cI, 5, .inl (fun _ => 0))), (u3, .inl (cI, 5, .inl (fun _ => 0))), (q5, .inr (0, [.ref q6, .int 0, .int 0, .int 0])), (q6, .inl (cI, 48, .inl (fun _ => 0))), (b0, .inl (cI, 48, .inl (fun _ => 0)))] H locs) => ?_)
  refine lv_aload_n S.1 S.2.1 dX4_init_56 rfl (lv_at hl 0 rfl) ?_
  refine lv_bipush (v := 48) S.1 S.2.1 dX4_init_57 (by decide) ?_
  refine x_newI S w 0 rfl 48 rfl (by decide) (Nat.le_of_ble_eq_true rfl) (Nat.le_of_ble_eq_true rfl) dX4_init_59 (fun b1 H w => ?_)
  refine x_putF4 S hnm w 0 (fs := [.ref q1, .ref q2, .ref q4, .ref q5, .ref b0, .null, .null, .null, .null, .null, .int 0, .int 0, .int 0, .int 0, .int 0, .int 0]) rfl 5 (by decide) lk_RX4_41 rfl rfl (v := .ref b1) rfl rfl (Nat.le_of_ble_eq_true rfl) rfl dX4_init_61 (fun H locs (w : Wd D (kT cI cO) (va_A _ _) _ _ [(h, .inr (4, [.ref q1, .ref q2, .ref q4, .ref q5, .ref b0, .ref b1, .null, .null, .null, .null, .int 0, .int 0, .int 0, .int 0, .int 0, .int 0])), (q1, .inr (3, [.int 0, .int 0, .int 0, .int 0, .int 0, .int 0, .int 0, .int 0, .int 0, .int 0, .int 0])), (q2, .inr (2, [.ref q3, .int 0, .int 0])), (q3, .inl (cI, 6, .inl (fun _ => 0))), (q4, .inr (1, [.ref u1, .ref u2, .ref u3, .int 0])), (u1, .inl (cO, 5, .inr (.inr (.inr (.inr (fun i => if i < 5 then some (r i) else none)))))), ((r 0), .inl (cI, 48, .inl (fun _ => 0))), ((r 1), .inl (cI, 48, .inl (fun _ => 0))), ((r 2), .inl (cI, 48, .inl (fun _ => 0))), ((r 3), .inl (cI, 48, .inl (fun _ => 0))), ((r 4), .inl (cI, 48, .inl (fun _ => 0))), (u2, .inl (cI, 5, .inl (fun _ => 0))), (u3, .inl (cI, 5, .inl (fun _ => 0))), (q5, .inr (0, [.ref q6, .int 0, .int 0, .int 0])), (q6, .inl (cI, 48, .inl (fun _ => 0))), (b0, .inl (cI, 48, .inl (fun _ => 0))), (b1, .inl (cI, 48, .inl (fun _ => 0)))] H locs) => ?_)
  refine lv_aload_n S.1 S.2.1 dX4_init_64 rfl (lv_at hl 0 rfl) ?_
  refine lv_bipush (v := 48) S.1 S.2.1 dX4_init_65 (by decide) ?_
  refine x_newI S w 0 rfl 48 rfl (by decide) (Nat.le_of_ble_eq_true rfl) (Nat.le_of_ble_eq_true rfl) dX4_init_67 (fun b2 H w => ?_)
  refine x_putF4 S hnm w 0 (fs := [.ref q1, .ref q2, .ref q4, .ref q5, .ref b0, .ref b1, .null, .null, .null, .null, .int 0, .int 0, .int 0, .int 0, .int 0, .int 0]) rfl 6 (by decide) lk_RX4_44 rfl rfl (v := .ref b2) rfl rfl (Nat.le_of_ble_eq_true rfl) rfl dX4_init_69 (fun H locs (w : Wd D (kT cI cO) (va_A _ _) _ _ [(h, .inr (4, [.ref q1, .ref q2, .ref q4, .ref q5, .ref b0, .ref b1, .ref b2, .null, .null, .null, .int 0, .int 0, .int 0, .int 0, .int 0, .int 0])), (q1, .inr (3, [.int 0, .int 0, .int 0, .int 0, .int 0, .int 0, .int 0, .int 0, .int 0, .int 0, .int 0])), (q2, .inr (2, [.ref q3, .int 0, .int 0])), (q3, .inl (cI, 6, .inl (fun _ => 0))), (q4, .inr (1, [.ref u1, .ref u2, .ref u3, .int 0])), (u1, .inl (cO, 5, .inr (.inr (.inr (.inr (fun i => if i < 5 then some (r i) else none)))))), ((r 0), .inl (cI, 48, .inl (fun _ => 0))), ((r 1), .inl (cI, 48, .inl (fun _ => 0))), ((r 2), .inl (cI, 48, .inl (fun _ => 0))), ((r 3), .inl (cI, 48, .inl (fun _ => 0))), ((r 4), .inl (cI, 48, .inl (fun _ => 0))), (u2, .inl (cI, 5, .inl (fun _ => 0))), (u3, .inl (cI, 5, .inl (fun _ => 0))), (q5, .inr (0, [.ref q6, .int 0, .int 0, .int 0])), (q6, .inl (cI, 48, .inl (fun _ => 0))), (b0, .inl (cI, 48, .inl (fun _ => 0))), (b1, .inl (cI, 48, .inl (fun _ => 0))), (b2, .inl (cI, 48, .inl (fun _ => 0)))] H locs) => ?_)
  refine lv_aload_n S.1 S.2.1 dX4_init_72 rfl (lv_at hl 0 rfl) ?_
  refine lv_bipush (v := 48) S.1 S.2.1 dX4_init_73 (by decide) ?_
  refine x_newI S w 0 rfl 48 rfl (by decide) (Nat.le_of_ble_eq_true rfl) (Nat.le_of_ble_eq_true rfl) dX4_init_75 (fun b3 H w => ?_)
  refine x_putF4 S hnm w 0 (fs := [.ref q1, .ref q2, .ref q4, .ref q5, .ref b0, .ref b1, .ref b2, .null, .null, .null, .int 0, .int 0, .int 0, .int 0, .int 0, .int 0]) rfl 7 (by decide) lk_RX4_47 rfl rfl (v := .ref b3) rfl rfl (Nat.le_of_ble_eq_true rfl) rfl dX4_init_77 (fun H locs (w : Wd D (kT cI cO) (va_A _ _) _ _ [(h, .inr (4, [.ref q1, .ref q2, .ref q4, .ref q5, .ref b0, .ref b1, .ref b2, .ref b3, .null, .null, .int 0, .int 0, .int 0, .int 0, .int 0, .int 0])), (q1, .inr (3, [.int 0, .int 0, .int 0, .int 0, .int 0, .int 0, .int 0, .int 0, .int 0, .int 0, .int 0])), (q2, .inr (2, [.ref q3, .int 0, .int 0])), (q3, .inl (cI, 6, .inl (fun _ => 0))), (q4, .inr (1, [.ref u1, .ref u2, .ref u3, .int 0])), (u1, .inl (cO, 5, .inr (.inr (.inr (.inr (fun i => if i < 5 then some (r i) else none)))))), ((r 0), .inl (cI, 48, .inl (fun _ => 0))), ((r 1), .inl (cI, 48, .inl (fun _ => 0))), ((r 2), .inl (cI, 48, .inl (fun _ => 0))), ((r 3), .inl (cI, 48, .inl (fun _ => 0))), ((r 4), .inl (cI, 48, .inl (fun _ => 0))), (u2, .inl (cI, 5, .inl (fun _ => 0))), (u3, .inl (cI, 5, .inl (fun _ => 0))), (q5, .inr (0, [.ref q6, .int 0, .int 0, .int 0])), (q6, .inl (cI, 48, .inl (fun _ => 0))), (b0, .inl (cI, 48, .inl (fun _ => 0))), (b1, .inl (cI, 48, .inl (fun _ => 0))), (b2, .inl (cI, 48, .inl (fun _ => 0))), (b3, .inl (cI, 48, .inl (fun _ => 0)))] H locs) => ?_)
  refine lv_aload_n S.1 S.2.1 dX4_init_80 rfl (lv_at hl 0 rfl) ?_
  refine lv_bipush (v := 48) S.1 S.2.1 dX4_init_81 (by decide) ?_
  refine x_newI S w 0 rfl 48 rfl (by decide) (Nat.le_of_ble_eq_true rfl) (Nat.le_of_ble_eq_true rfl) dX4_init_83 (fun b4 H w => ?_)
  refine x_putF4 S hnm w 0 (fs := [.ref q1, .ref q2, .ref q4, .ref q5, .ref b0, .ref b1, .ref b2, .ref b3, .null, .null, .int 0, .int 0, .int 0, .int 0, .int 0, .int 0]) rfl 8 (by decide) lk_RX4_50 rfl rfl (v := .ref b4) rfl rfl (Nat.le_of_ble_eq_true rfl) rfl dX4_init_85 (fun H locs (w : Wd D (kT cI cO) (va_A _ _) _ _ [(h, .inr (4, [.ref q1, .ref q2, .ref q4, .ref q5, .ref b0, .ref b1, .ref b2, .ref b3, .ref b4, .null, .int 0, .int 0, .int 0, .int 0, .int 0, .int 0])), (q1, .inr (3, [.int 0, .int 0, .int 0, .int 0, .int 0, .int 0, .int 0, .int 0, .int 0, .int 0, .int 0])), (q2, .inr (2, [.ref q3, .int 0, .int 0])), (q3, .inl (cI, 6, .inl (fun _ => 0))), (q4, .inr (1, [.ref u1, .ref u2, .ref u3, .int 0])), (u1, .inl (cO, 5, .inr (.inr (.inr (.inr (fun i => if i < 5 then some (r i) else none)))))), ((r 0), .inl (cI, 48, .inl (fun _ => 0))), ((r 1), .inl (cI, 48, .inl (fun _ => 0))), ((r 2), .inl (cI, 48, .inl (fun _ => 0))), ((r 3), .inl (cI, 48, .inl (fun _ => 0))), ((r 4), .inl (cI, 48, .inl (fun _ => 0))), (u2, .inl (cI, 5, .inl (fun _ => 0))), (u3, .inl (cI, 5, .inl (fun _ => 0))), (q5, .inr (0, [.ref q6, .int 0, .int 0, .int 0])), (q6, .inl (cI, 48, .inl (fun _ => 0))), (b0, .inl (cI, 48, .inl (fun _ => 0))), (b1, .inl (cI, 48, .inl (fun _ => 0))), (b2, .inl (cI, 48, .inl (fun _ => 0))), (b3, .inl (cI, 48, .inl (fun _ => 0))), (b4, .inl (cI, 48, .inl (fun _ => 0)))] H locs) => ?_)
  refine lv_aload_n S.1 S.2.1 dX4_init_88 rfl (lv_at hl 0 rfl) ?_
  refine lv_bipush (v := 48) S.1 S.2.1 dX4_init_89 (by decide) ?_
  refine x_newI S w 0 rfl 48 rfl (by decide) (Nat.le_of_ble_eq_true rfl) (Nat.le_of_ble_eq_true rfl) dX4_init_91 (fun b5 H w => ?_)
  refine x_putF4 S hnm w 0 (fs := [.ref q1, .ref q2, .ref q4, .ref q5, .ref b0, .ref b1, .ref b2, .ref b3, .ref b4, .null, .int 0, .int 0, .int 0, .int 0, .int 0, .int 0]) rfl 9 (by decide) lk_RX4_53 rfl rfl (v := .ref b5) rfl rfl (Nat.le_of_ble_eq_true rfl) rfl dX4_init_93 (fun H locs (w : Wd D (kT cI cO) (va_A _ _) _ _ [(h, .inr (4, [.ref q1, .ref q2, .ref q4, .ref q5, .ref b0, .ref b1, .ref b2, .ref b3, .ref b4, .ref b5, .int 0, .int 0, .int 0, .int 0, .int 0, .int 0])), (q1, .inr (3, [.int 0, .int 0, .int 0, .int 0, .int 0, .int 0, .int 0, .int 0, .int 0, .int 0, .int 0])), (q2, .inr (2, [.ref q3, .int 0, .int 0])), (q3, .inl (cI, 6, .inl (fun _ => 0))), (q4, .inr (1, [.ref u1, .ref u2, .ref u3, .int 0])), (u1, .inl (cO, 5, .inr (.inr (.inr (.inr (fun i => if i < 5 then some (r i) else none)))))), ((r 0), .inl (cI, 48, .inl (fun _ => 0))), ((r 1), .inl (cI, 48, .inl (fun _ => 0))), ((r 2), .inl (cI, 48, .inl (fun _ => 0))), ((r 3), .inl (cI, 48, .inl (fun _ => 0))), ((r 4), .inl (cI, 48, .inl (fun _ => 0))), (u2, .inl (cI, 5, .inl (fun _ => 0))), (u3, .inl (cI, 5, .inl (fun _ => 0))), (q5, .inr (0, [.ref q6, .int 0, .int 0, .int 0])), (q6, .inl (cI, 48, .inl (fun _ => 0))), (b0, .inl (cI, 48, .inl (fun _ => 0))), (b1, .inl (cI, 48, .inl (fun _ => 0))), (b2, .inl (cI, 48, .inl (fun _ => 0))), (b3, .inl (cI, 48, .inl (fun _ => 0))), (b4, .inl (cI, 48, .inl (fun _ => 0))), (b5, .inl (cI, 48, .inl (fun _ => 0)))] H locs) => ?_)
  have w := w.pick (ws' := [(h, .inr (4, [.ref q1, .ref q2, .ref q4, .ref q5, .ref b0, .ref b1, .ref b2, .ref b3, .ref b4, .ref b5, .int 0, .int 0, .int 0, .int 0, .int 0, .int 0])), (q1, .inr (3, [.int 0, .int 0, .int 0, .int 0, .int 0, .int 0, .int 0, .int 0, .int 0, .int 0, .int 0])), (q2, .inr (2, [.ref q3, .int 0, .int 0])), (q4, .inr (1, [.ref u1, .ref u2, .ref u3, .int 0])), (q5, .inr (0, [.ref q6, .int 0, .int 0, .int 0])), (b0, .inl (cI, 48, .inl (fun _ => 0))), (b1, .inl (cI, 48, .inl (fun _ => 0))), (b2, .inl (cI, 48, .inl (fun _ => 0))), (b3, .inl (cI, 48, .inl (fun _ => 0))), (b4, .inl (cI, 48, .inl (fun _ => 0))), (b5, .inl (cI, 48, .inl (fun _ => 0))), (q3, .inl (cI, 6, .inl (fun _ => 0))), (u2, .inl (cI, 5, .inl (fun _ => 0))), (u3, .inl (cI, 5, .inl (fun _ => 0))), (q6, .inl (cI, 48, .inl (fun _ => 0))), (u1, .inl (cO, 5, .inr (.inr (.inr (.inr (fun i => if i < 5 then some (r i) else none)))))), ((r 0), .inl (cI, 48, .inl (fun _ => 0))), ((r 1), .inl (cI, 48, .inl (fun _ => 0))), ((r 2), .inl (cI, 48, .inl (fun _ => 0))), ((r 3), .inl (cI, 48, .inl (fun _ => 0))), ((r 4), .inl (cI, 48, .inl (fun _ => 0)))]) [0, 1, 2, 4, 13, 15, 16, 17, 18, 19, 20, 3, 11, 12, 14, 5, 6, 7, 8, 9, 10] rfl rfl rfl
  have ho : (fun i => if i < 5 then some (r i) else none) = (fun i => if i < 5 then some ((adX [h, q1, q2, q4, q5, b0, b1, b2, b3, b4, b5, q3, u2, u3, q6, u1] r) (16 + i)) else none) := funext fun i => by rw [adX_16]
  rw [ho] at w
  have w : Wd D (kT cI cO) (va_A _ _) _ _ (xW cI cO (adX [h, q1, q2, q4, q5, b0, b1, b2, b3, b4, b5, q3, u2, u3, q6, u1] r) (fun _ => 0) (fun _ _ => 0) []) H locs := w
  refine lv_aload_n S.1 S.2.1 dX4_init_96 rfl (lv_at hl 0 rfl) ?_
  refine lv_bipush (v := 16) S.1 S.2.1 dX4_init_97 (by decide) ?_
  refine x_Vv (As := [.int 16]) (rest := []) S w (goodV lk_RX4_56 li_X4_startAnew ls_X4_startAnew ln_RX4 lc_X4_startAnew) hV_X4_startAnew (k_X4_startAnew l D cI cO (adX [h, q1, q2, q4, q5, b0, b1, b2, b3, b4, b5, q3, u2, u3, q6, u1] r) [] (fun _ => 0) (fun _ _ => 0) 16) rfl 0 4 rfl rfl xc_0 ⟨(Nat.le_of_ble_eq_true rfl), (Nat.le_of_ble_eq_true rfl)⟩ ⟨rfl, rfl⟩ hl.1 rfl (Nat.le_of_ble_eq_true rfl) ⟨(Nat.le_of_ble_eq_true rfl), (Nat.le_of_ble_eq_true rfl)⟩ dX4_init_99 (fun H locs w => ?_)
  obtain ⟨hK, hP, hD, hS, hA⟩ := w
  exact W.vret S.1 S.2.1 hr (fun t ht hW => ⟨⟨((adX [h, q1, q2, q4, q5, b0, b1, b2, b3, b4, b5, q3, u2, u3, q6, u1] r), cO), rfl, rfl, by rw [ht]; exact hP, va_K.moved hW.alike hK, hD⟩, hS.F ht⟩) hS.2.2 dX4_init_102 hlk
def mS0 : Nat → Int32 := (o_X5_begin (fun _ => 0) (fun _ _ => 0) 16).1
def mF0 : Nat → Nat → Int32 := (o_X5_begin (fun _ => 0) (fun _ _ => 0) 16).2
theorem wd_reord {D : va_G} {tys : List (ClassId × FieldType)} {A : Nat → Prop} {H0 H : Heap} {s : State} {locs : List Loc} {L Z : va_W} {ws : va_W} (w : Wd D tys A H0 s ws H locs) (y : Nat × va_E) (M : va_W) (is : List Nat) (hw : ws = (y :: M) ++ Z) (hn : va_nd is = true) (h1 : is.filterMap (fun i => M[i]?) = L) (h2 : is.map (fun i => M[i]?) = L.map some) : Wd D tys A H0 s (y :: (L ++ Z)) H locs := by
  subst hw
  have hP : va_P D vwCl (y :: (L ++ Z)) H := by
    have a1 := va_P.sub (ws' := [y]) w.2.1 [0] rfl
    have a2 : va_P D vwCl L H := va_P.sub (ws := M) (fun k q hk => w.2.1 (k + 1) q (by
      rw [List.cons_append, List.getElem?_cons_succ, List.getElem?_append_left (List.getElem?_eq_some_iff.mp hk).1]; exact hk)) is h1
    have a3 : va_P D vwCl Z H := fun k q hk => w.2.1 (k + (M.length + 1)) q (by
      rw [List.getElem?_append_right (by simp), show k + (M.length + 1) - (y :: M).length = k by simp]; exact hk)
    exact va_P.app a1 (va_P.app a2 a3)
  have inM : ∀ (k : Nat) (q : Nat × va_E), L[k]? = some q → ∃ i : Nat, i < M.length ∧ ((y :: M) ++ Z)[i + 1]? = some q := fun k q hk => by
    have h3 := List.mem_of_getElem? hk
    rw [← h1] at h3
    obtain ⟨i, -, hi⟩ := List.mem_filterMap.mp h3
    have hl := (List.getElem?_eq_some_iff.mp hi).1
    exact ⟨i, hl, by rw [List.cons_append, List.getElem?_cons_succ, List.getElem?_append_left hl]; exact hi⟩
  have inZ : ∀ (k : Nat) (q : Nat × va_E), Z[k]? = some q → ((y :: M) ++ Z)[k + (M.length + 1)]? = some q := fun k q hk => by
    rw [List.getElem?_append_right (by simp), show k + (M.length + 1) - (y :: M).length = k by simp]; exact hk
  have D2 : va_D A L := by
    refine va_D.sub (ws := M) ⟨fun i j p q hi hj hpq => ?_, fun k q hk => ?_⟩ is hn h2
    · have a1 : ((y :: M) ++ Z)[i + 1]? = some p := by rw [List.cons_append, List.getElem?_cons_succ, List.getElem?_append_left (List.getElem?_eq_some_iff.mp hi).1]; exact hi
      have a2 : ((y :: M) ++ Z)[j + 1]? = some q := by rw [List.cons_append, List.getElem?_cons_succ, List.getElem?_append_left (List.getElem?_eq_some_iff.mp hj).1]; exact hj
      have := w.2.2.1.1 _ _ _ _ a1 a2 hpq
      omega
    · exact w.2.2.1.2 (k + 1) q (by rw [List.cons_append, List.getElem?_cons_succ, List.getElem?_append_left (List.getElem?_eq_some_iff.mp hk).1]; exact hk)
  have D3 : va_D A Z := ⟨fun i j p q hi hj hpq => by have := w.2.2.1.1 _ _ _ _ (inZ i p hi) (inZ j q hj) hpq; omega, fun k q hk => w.2.2.1.2 _ q (inZ k q hk)⟩
  have D4 : va_D A (L ++ Z) := va_D.app D2 D3 (fun i j p q hi hj hpq => by
    obtain ⟨i2, hl, hi2⟩ := inM i p hi
    have := w.2.2.1.1 _ _ _ _ hi2 (inZ j q hj) hpq
    omega)
  have D1 : va_D A [y] := ⟨fun i j p q hi hj _ => by
    have a1 := (List.getElem?_eq_some_iff.mp hi).1
    have a2 := (List.getElem?_eq_some_iff.mp hj).1
    simp only [List.length_singleton] at a1 a2
    omega, fun k q hk => by
    have a1 := (List.getElem?_eq_some_iff.mp hk).1
    simp only [List.length_singleton] at a1
    have : k = 0 := by omega
    subst this
    exact w.2.2.1.2 0 q hk⟩
  have hD : va_D A ([y] ++ (L ++ Z)) := va_D.app D1 D4 (fun i j p q hi hj hpq => by
    have a1 := (List.getElem?_eq_some_iff.mp hi).1
    simp only [List.length_singleton] at a1
    have : i = 0 := by omega
    subst this
    have hi0 : ((y :: M) ++ Z)[0]? = some p := hi
    by_cases hl : j < L.length
    · rw [List.getElem?_append_left hl] at hj
      obtain ⟨i2, _, hi2⟩ := inM j q hj
      have := w.2.2.1.1 _ _ _ _ hi0 hi2 hpq
      omega
    · rw [List.getElem?_append_right (by omega)] at hj
      have := w.2.2.1.1 _ _ _ _ hi0 (inZ _ q hj) hpq
      omega)
  exact ⟨w.1, hP, hD, w.2.2.2.1, w.2.2.2.2⟩
set_option maxHeartbeats 4000000 in
set_option maxRecDepth 100000 in
theorem k_X5_init (l : Launch) (D : va_G) (cI cO : ClassId) (h : Nat) (Z : va_W) : ∀ sz, Met l yX5_init (wM yX5_init cX5_init 1 none) { frames := 1, cells := 11, slots := 592, locals := 30 } (mP D (kT cI cO) ((h, .inr (5, [.int 0, .null, .null, .int 0, .int 0, .int 0, .int 0, .int 0, .int 0, .int 0, .int 0, .int 0, .int 0, .int 0, .int 0, .int 0, .int 0, .int 0, .int 0, .int 0, .null, .null, .null, .null, .null, .null, .null, .int 0, .int 0, .null, .null, .int 0, .int 0])) :: Z) sz [.ref h]) (va_Qv (S := Nat → Nat) (fun u => u 0 = h) (fun u t => mB D (kT cI cO) ((h, .inr (5, [.int 0, .null, .null, .int 0, .int 0, .int 0, .int 0, .int 0, .int 0, .int 0, .int 0, .int 0, .int 0, .int 0, .int 0, .int 0, .int 0, .int 0, .int 0, .int 0, .null, .null, .null, .null, .null, .null, .null, .int 0, .int 0, .null, .null, .int 0, .int 0])) :: Z) sz (mW cI cO u mS0 mF0 Z) t) (va_A ((h, .inr (5, [.int 0, .null, .null, .int 0, .int 0, .int 0, .int 0, .int 0, .int 0, .int 0, .int 0, .int 0, .int 0, .int 0, .int 0, .int 0, .int 0, .int 0, .int 0, .int 0, .null, .null, .null, .null, .null, .null, .null, .int 0, .int 0, .null, .null, .int 0, .int 0])) :: Z) sz)) 11 592 (va_A ((h, .inr (5, [.int 0, .null, .null, .int 0, .int 0, .int 0, .int 0, .int 0, .int 0, .int 0, .int 0, .int 0, .int 0, .int 0, .int 0, .int 0, .int 0, .int 0, .int 0, .int 0, .null, .null, .null, .null, .null, .null, .null, .int 0, .int 0, .null, .null, .int 0, .int 0])) :: Z) sz) := by
  intro sz
  refine ent (by decide +kernel) (Nat.le_of_ble_eq_true rfl) ?_
  intro p e st m below meth c ls S hr hlk hnm w hsz hl
  have hl : lv_has ls 1 [(0, .ref h)] := hl
  refine lv_aload_n S.1 S.2.1 dX5_init_0 rfl (lv_at hl 0 rfl) ?_
  refine x_obj S lk_RX5_1 hl.1 (Nat.le_of_ble_eq_true rfl) (Nat.le_of_ble_eq_true rfl) dX5_init_1 ?_
  refine lv_aload_n S.1 S.2.1 dX5_init_4 rfl (lv_at hl 0 rfl) ?_
  refine lv_bipush (v := 48) S.1 S.2.1 dX5_init_5 (by decide) ?_
  refine x_newI S w 0 rfl 48 rfl (by decide) (Nat.le_of_ble_eq_true rfl) (Nat.le_of_ble_eq_true rfl) dX5_init_7 (fun b1 H w => ?_)
  refine x_putF5 S hnm w 0 (fs := [.int 0, .null, .null, .int 0, .int 0, .int 0, .int 0, .int 0, .int 0, .int 0, .int 0, .int 0, .int 0, .int 0, .int 0, .int 0, .int 0, .int 0, .int 0, .int 0, .null, .null, .null, .null, .null, .null, .null, .int 0, .int 0, .null, .null, .int 0, .int 0]) rfl 1 (by decide) lk_RX5_7 rfl rfl (v := .ref b1) rfl rfl (Nat.le_of_ble_eq_true rfl) (ws' := (h, .inr (5, [.int 0, .ref b1, .null, .int 0, .int 0, .int 0, .int 0, .int 0, .int 0, .int 0, .int 0, .int 0, .int 0, .int 0, .int 0, .int 0, .int 0, .int 0, .int 0, .int 0, .null, .null, .null, .null, .null, .null, .null, .int 0, .int 0, .null, .null, .int 0, .int 0])) :: (Z ++ [(b1, .inl (cI, 48, .inl (fun _ => 0)))])) rfl dX5_init_9 (fun H locs w => ?_)
  refine lv_aload_n S.1 S.2.1 dX5_init_12 rfl (lv_at hl 0 rfl) ?_
  refine lv_bipush (v := 48) S.1 S.2.1 dX5_init_13 (by decide) ?_
  refine x_newI S w 0 rfl 48 rfl (by decide) (Nat.le_of_ble_eq_true rfl) (Nat.le_of_ble_eq_true rfl) dX5_init_15 (fun b2 H w => ?_)
  refine x_putF5 S hnm w 0 (fs := [.int 0, .ref b1, .null, .int 0, .int 0, .int 0, .int 0, .int 0, .int 0, .int 0, .int 0, .int 0, .int 0, .int 0, .int 0, .int 0, .int 0, .int 0, .int 0, .int 0, .null, .null, .null, .null, .null, .null, .null, .int 0, .int 0, .null, .null, .int 0, .int 0]) rfl 2 (by decide) lk_RX5_13 rfl rfl (v := .ref b2) rfl rfl (Nat.le_of_ble_eq_true rfl) (ws' := (h, .inr (5, [.int 0, .ref b1, .ref b2, .int 0, .int 0, .int 0, .int 0, .int 0, .int 0, .int 0, .int 0, .int 0, .int 0, .int 0, .int 0, .int 0, .int 0, .int 0, .int 0, .int 0, .null, .null, .null, .null, .null, .null, .null, .int 0, .int 0, .null, .null, .int 0, .int 0])) :: ((Z ++ [(b1, .inl (cI, 48, .inl (fun _ => 0)))]) ++ [(b2, .inl (cI, 48, .inl (fun _ => 0)))])) rfl dX5_init_17 (fun H locs w => ?_)
  refine lv_aload_n S.1 S.2.1 dX5_init_20 rfl (lv_at hl 0 rfl) ?_
  refine lv_bipush (v := 48) S.1 S.2.1 dX5_init_21 (by decide) ?_
  refine x_newI S w 0 rfl 48 rfl (by decide) (Nat.le_of_ble_eq_true rfl) (Nat.le_of_ble_eq_true rfl) dX5_init_23 (fun b4 H w => ?_)
  refine x_putF5 S hnm w 0 (fs := [.int 0, .ref b1, .ref b2, .int 0, .int 0, .int 0, .int 0, .int 0, .int 0, .int 0, .int 0, .int 0, .int 0, .int 0, .int 0, .int 0, .int 0, .int 0, .int 0, .int 0, .null, .null, .null, .null, .null, .null, .null, .int 0, .int 0, .null, .null, .int 0, .int 0]) rfl 20 (by decide) lk_RX5_16 rfl rfl (v := .ref b4) rfl rfl (Nat.le_of_ble_eq_true rfl) (ws' := (h, .inr (5, [.int 0, .ref b1, .ref b2, .int 0, .int 0, .int 0, .int 0, .int 0, .int 0, .int 0, .int 0, .int 0, .int 0, .int 0, .int 0, .int 0, .int 0, .int 0, .int 0, .int 0, .ref b4, .null, .null, .null, .null, .null, .null, .int 0, .int 0, .null, .null, .int 0, .int 0])) :: (((Z ++ [(b1, .inl (cI, 48, .inl (fun _ => 0)))]) ++ [(b2, .inl (cI, 48, .inl (fun _ => 0)))]) ++ [(b4, .inl (cI, 48, .inl (fun _ => 0)))])) rfl dX5_init_25 (fun H locs w => ?_)
  refine lv_aload_n S.1 S.2.1 dX5_init_28 rfl (lv_at hl 0 rfl) ?_
  refine lv_bipush (v := 48) S.1 S.2.1 dX5_init_29 (by decide) ?_
  refine x_newI S w 0 rfl 48 rfl (by decide) (Nat.le_of_ble_eq_true rfl) (Nat.le_of_ble_eq_true rfl) dX5_init_31 (fun b6 H w => ?_)
  refine x_putF5 S hnm w 0 (fs := [.int 0, .ref b1, .ref b2, .int 0, .int 0, .int 0, .int 0, .int 0, .int 0, .int 0, .int 0, .int 0, .int 0, .int 0, .int 0, .int 0, .int 0, .int 0, .int 0, .int 0, .ref b4, .null, .null, .null, .null, .null, .null, .int 0, .int 0, .null, .null, .int 0, .int 0]) rfl 21 (by decide) lk_RX5_19 rfl rfl (v := .ref b6) rfl rfl (Nat.le_of_ble_eq_true rfl) (ws' := (h, .inr (5, [.int 0, .ref b1, .ref b2, .int 0, .int 0, .int 0, .int 0, .int 0, .int 0, .int 0, .int 0, .int 0, .int 0, .int 0, .int 0, .int 0, .int 0, .int 0, .int 0, .int 0, .ref b4, .ref b6, .null, .null, .null, .null, .null, .int 0, .int 0, .null, .null, .int 0, .int 0])) :: ((((Z ++ [(b1, .inl (cI, 48, .inl (fun _ => 0)))]) ++ [(b2, .inl (cI, 48, .inl (fun _ => 0)))]) ++ [(b4, .inl (cI, 48, .inl (fun _ => 0)))]) ++ [(b6, .inl (cI, 48, .inl (fun _ => 0)))])) rfl dX5_init_33 (fun H locs w => ?_)
  refine lv_aload_n S.1 S.2.1 dX5_init_36 rfl (lv_at hl 0 rfl) ?_
  refine lv_bipush (v := 48) S.1 S.2.1 dX5_init_37 (by decide) ?_
  refine x_newI S w 0 rfl 48 rfl (by decide) (Nat.le_of_ble_eq_true rfl) (Nat.le_of_ble_eq_true rfl) dX5_init_39 (fun b3 H w => ?_)
  refine x_putF5 S hnm w 0 (fs := [.int 0, .ref b1, .ref b2, .int 0, .int 0, .int 0, .int 0, .int 0, .int 0, .int 0, .int 0, .int 0, .int 0, .int 0, .int 0, .int 0, .int 0, .int 0, .int 0, .int 0, .ref b4, .ref b6, .null, .null, .null, .null, .null, .int 0, .int 0, .null, .null, .int 0, .int 0]) rfl 22 (by decide) lk_RX5_22 rfl rfl (v := .ref b3) rfl rfl (Nat.le_of_ble_eq_true rfl) (ws' := (h, .inr (5, [.int 0, .ref b1, .ref b2, .int 0, .int 0, .int 0, .int 0, .int 0, .int 0, .int 0, .int 0, .int 0, .int 0, .int 0, .int 0, .int 0, .int 0, .int 0, .int 0, .int 0, .ref b4, .ref b6, .ref b3, .null, .null, .null, .null, .int 0, .int 0, .null, .null, .int 0, .int 0])) :: (((((Z ++ [(b1, .inl (cI, 48, .inl (fun _ => 0)))]) ++ [(b2, .inl (cI, 48, .inl (fun _ => 0)))]) ++ [(b4, .inl (cI, 48, .inl (fun _ => 0)))]) ++ [(b6, .inl (cI, 48, .inl (fun _ => 0)))]) ++ [(b3, .inl (cI, 48, .inl (fun _ => 0)))])) rfl dX5_init_41 (fun H locs w => ?_)
  refine lv_aload_n S.1 S.2.1 dX5_init_44 rfl (lv_at hl 0 rfl) ?_
  refine lv_sipush (v := 240) S.1 S.2.1 dX5_init_45 (by decide) ?_
  refine x_newI S w 0 rfl 240 rfl (by decide) (Nat.le_of_ble_eq_true rfl) (Nat.le_of_ble_eq_true rfl) dX5_init_48 (fun b11 H w => ?_)
  refine x_putF5 S hnm w 0 (fs := [.int 0, .ref b1, .ref b2, .int 0, .int 0, .int 0, .int 0, .int 0, .int 0, .int 0, .int 0, .int 0, .int 0, .int 0, .int 0, .int 0, .int 0, .int 0, .int 0, .int 0, .ref b4, .ref b6, .ref b3, .null, .null, .null, .null, .int 0, .int 0, .null, .null, .int 0, .int 0]) rfl 23 (by decide) lk_RX5_25 rfl rfl (v := .ref b11) rfl rfl (Nat.le_of_ble_eq_true rfl) (ws' := (h, .inr (5, [.int 0, .ref b1, .ref b2, .int 0, .int 0, .int 0, .int 0, .int 0, .int 0, .int 0, .int 0, .int 0, .int 0, .int 0, .int 0, .int 0, .int 0, .int 0, .int 0, .int 0, .ref b4, .ref b6, .ref b3, .ref b11, .null, .null, .null, .int 0, .int 0, .null, .null, .int 0, .int 0])) :: ((((((Z ++ [(b1, .inl (cI, 48, .inl (fun _ => 0)))]) ++ [(b2, .inl (cI, 48, .inl (fun _ => 0)))]) ++ [(b4, .inl (cI, 48, .inl (fun _ => 0)))]) ++ [(b6, .inl (cI, 48, .inl (fun _ => 0)))]) ++ [(b3, .inl (cI, 48, .inl (fun _ => 0)))]) ++ [(b11, .inl (cI, 240, .inl (fun _ => 0)))])) rfl dX5_init_50 (fun H locs w => ?_)
  refine lv_aload_n S.1 S.2.1 dX5_init_53 rfl (lv_at hl 0 rfl) ?_
  refine lv_iconst (v := 5) S.1 S.2.1 dX5_init_54 (by decide) ?_
  refine x_newI S w 0 rfl 5 rfl (by decide) (Nat.le_of_ble_eq_true rfl) (Nat.le_of_ble_eq_true rfl) dX5_init_55 (fun b8 H w => ?_)
  refine x_putF5 S hnm w 0 (fs := [.int 0, .ref b1, .ref b2, .int 0, .int 0, .int 0, .int 0, .int 0, .int 0, .int 0, .int 0, .int 0, .int 0, .int 0, .int 0, .int 0, .int 0, .int 0, .int 0, .int 0, .ref b4, .ref b6, .ref b3, .ref b11, .null, .null, .null, .int 0, .int 0, .null, .null, .int 0, .int 0]) rfl 24 (by decide) lk_RX5_28 rfl rfl (v := .ref b8) rfl rfl (Nat.le_of_ble_eq_true rfl) (ws' := (h, .inr (5, [.int 0, .ref b1, .ref b2, .int 0, .int 0, .int 0, .int 0, .int 0, .int 0, .int 0, .int 0, .int 0, .int 0, .int 0, .int 0, .int 0, .int 0, .int 0, .int 0, .int 0, .ref b4, .ref b6, .ref b3, .ref b11, .ref b8, .null, .null, .int 0, .int 0, .null, .null, .int 0, .int 0])) :: (((((((Z ++ [(b1, .inl (cI, 48, .inl (fun _ => 0)))]) ++ [(b2, .inl (cI, 48, .inl (fun _ => 0)))]) ++ [(b4, .inl (cI, 48, .inl (fun _ => 0)))]) ++ [(b6, .inl (cI, 48, .inl (fun _ => 0)))]) ++ [(b3, .inl (cI, 48, .inl (fun _ => 0)))]) ++ [(b11, .inl (cI, 240, .inl (fun _ => 0)))]) ++ [(b8, .inl (cI, 5, .inl (fun _ => 0)))])) rfl dX5_init_57 (fun H locs w => ?_)
  refine lv_aload_n S.1 S.2.1 dX5_init_60 rfl (lv_at hl 0 rfl) ?_
  refine lv_iconst (v := 5) S.1 S.2.1 dX5_init_61 (by decide) ?_
  refine x_newI S w 0 rfl 5 rfl (by decide) (Nat.le_of_ble_eq_true rfl) (Nat.le_of_ble_eq_true rfl) dX5_init_62 (fun b9 H w => ?_)
  refine x_putF5 S hnm w 0 (fs := [.int 0, .ref b1, .ref b2, .int 0, .int 0, .int 0, .int 0, .int 0, .int 0, .int 0, .int 0, .int 0, .int 0, .int 0, .int 0, .int 0, .int 0, .int 0, .int 0, .int 0, .ref b4, .ref b6, .ref b3, .ref b11, .ref b8, .null, .null, .int 0, .int 0, .null, .null, .int 0, .int 0]) rfl 25 (by decide) lk_RX5_31 rfl rfl (v := .ref b9) rfl rfl (Nat.le_of_ble_eq_true rfl) (ws' := (h, .inr (5, [.int 0, .ref b1, .ref b2, .int 0, .int 0, .int 0, .int 0, .int 0, .int 0, .int 0, .int 0, .int 0, .int 0, .int 0, .int 0, .int 0, .int 0, .int 0, .int 0, .int 0, .ref b4, .ref b6, .ref b3, .ref b11, .ref b8, .ref b9, .null, .int 0, .int 0, .null, .null, .int 0, .int 0])) :: ((((((((Z ++ [(b1, .inl (cI, 48, .inl (fun _ => 0)))]) ++ [(b2, .inl (cI, 48, .inl (fun _ => 0)))]) ++ [(b4, .inl (cI, 48, .inl (fun _ => 0)))]) ++ [(b6, .inl (cI, 48, .inl (fun _ => 0)))]) ++ [(b3, .inl (cI, 48, .inl (fun _ => 0)))]) ++ [(b11, .inl (cI, 240, .inl (fun _ => 0)))]) ++ [(b8, .inl (cI, 5, .inl (fun _ => 0)))]) ++ [(b9, .inl (cI, 5, .inl (fun _ => 0)))])) rfl dX5_init_64 (fun H locs w => ?_)
  refine lv_aload_n S.1 S.2.1 dX5_init_67 rfl (lv_at hl 0 rfl) ?_
  refine lv_bipush (v := 48) S.1 S.2.1 dX5_init_68 (by decide) ?_
  refine x_newI S w 0 rfl 48 rfl (by decide) (Nat.le_of_ble_eq_true rfl) (Nat.le_of_ble_eq_true rfl) dX5_init_70 (fun b5 H w => ?_)
  refine x_putF5 S hnm w 0 (fs := [.int 0, .ref b1, .ref b2, .int 0, .int 0, .int 0, .int 0, .int 0, .int 0, .int 0, .int 0, .int 0, .int 0, .int 0, .int 0, .int 0, .int 0, .int 0, .int 0, .int 0, .ref b4, .ref b6, .ref b3, .ref b11, .ref b8, .ref b9, .null, .int 0, .int 0, .null, .null, .int 0, .int 0]) rfl 26 (by decide) lk_RX5_34 rfl rfl (v := .ref b5) rfl rfl (Nat.le_of_ble_eq_true rfl) (ws' := (h, .inr (5, [.int 0, .ref b1, .ref b2, .int 0, .int 0, .int 0, .int 0, .int 0, .int 0, .int 0, .int 0, .int 0, .int 0, .int 0, .int 0, .int 0, .int 0, .int 0, .int 0, .int 0, .ref b4, .ref b6, .ref b3, .ref b11, .ref b8, .ref b9, .ref b5, .int 0, .int 0, .null, .null, .int 0, .int 0])) :: (((((((((Z ++ [(b1, .inl (cI, 48, .inl (fun _ => 0)))]) ++ [(b2, .inl (cI, 48, .inl (fun _ => 0)))]) ++ [(b4, .inl (cI, 48, .inl (fun _ => 0)))]) ++ [(b6, .inl (cI, 48, .inl (fun _ => 0)))]) ++ [(b3, .inl (cI, 48, .inl (fun _ => 0)))]) ++ [(b11, .inl (cI, 240, .inl (fun _ => 0)))]) ++ [(b8, .inl (cI, 5, .inl (fun _ => 0)))]) ++ [(b9, .inl (cI, 5, .inl (fun _ => 0)))]) ++ [(b5, .inl (cI, 48, .inl (fun _ => 0)))])) rfl dX5_init_72 (fun H locs w => ?_)
  refine lv_aload_n S.1 S.2.1 dX5_init_75 rfl (lv_at hl 0 rfl) ?_
  refine lv_bipush (v := 48) S.1 S.2.1 dX5_init_76 (by decide) ?_
  refine x_newI S w 0 rfl 48 rfl (by decide) (Nat.le_of_ble_eq_true rfl) (Nat.le_of_ble_eq_true rfl) dX5_init_78 (fun b10 H w => ?_)
  refine x_putF5 S hnm w 0 (fs := [.int 0, .ref b1, .ref b2, .int 0, .int 0, .int 0, .int 0, .int 0, .int 0, .int 0, .int 0, .int 0, .int 0, .int 0, .int 0, .int 0, .int 0, .int 0, .int 0, .int 0, .ref b4, .ref b6, .ref b3, .ref b11, .ref b8, .ref b9, .ref b5, .int 0, .int 0, .null, .null, .int 0, .int 0]) rfl 29 (by decide) lk_RX5_37 rfl rfl (v := .ref b10) rfl rfl (Nat.le_of_ble_eq_true rfl) (ws' := (h, .inr (5, [.int 0, .ref b1, .ref b2, .int 0, .int 0, .int 0, .int 0, .int 0, .int 0, .int 0, .int 0, .int 0, .int 0, .int 0, .int 0, .int 0, .int 0, .int 0, .int 0, .int 0, .ref b4, .ref b6, .ref b3, .ref b11, .ref b8, .ref b9, .ref b5, .int 0, .int 0, .ref b10, .null, .int 0, .int 0])) :: ((((((((((Z ++ [(b1, .inl (cI, 48, .inl (fun _ => 0)))]) ++ [(b2, .inl (cI, 48, .inl (fun _ => 0)))]) ++ [(b4, .inl (cI, 48, .inl (fun _ => 0)))]) ++ [(b6, .inl (cI, 48, .inl (fun _ => 0)))]) ++ [(b3, .inl (cI, 48, .inl (fun _ => 0)))]) ++ [(b11, .inl (cI, 240, .inl (fun _ => 0)))]) ++ [(b8, .inl (cI, 5, .inl (fun _ => 0)))]) ++ [(b9, .inl (cI, 5, .inl (fun _ => 0)))]) ++ [(b5, .inl (cI, 48, .inl (fun _ => 0)))]) ++ [(b10, .inl (cI, 48, .inl (fun _ => 0)))])) rfl dX5_init_80 (fun H locs w => ?_)
  refine lv_aload_n S.1 S.2.1 dX5_init_83 rfl (lv_at hl 0 rfl) ?_
  refine lv_bipush (v := 6) S.1 S.2.1 dX5_init_84 (by decide) ?_
  refine x_newI S w 0 rfl 6 rfl (by decide) (Nat.le_of_ble_eq_true rfl) (Nat.le_of_ble_eq_true rfl) dX5_init_86 (fun b7 H w => ?_)
  refine x_putF5 S hnm w 0 (fs := [.int 0, .ref b1, .ref b2, .int 0, .int 0, .int 0, .int 0, .int 0, .int 0, .int 0, .int 0, .int 0, .int 0, .int 0, .int 0, .int 0, .int 0, .int 0, .int 0, .int 0, .ref b4, .ref b6, .ref b3, .ref b11, .ref b8, .ref b9, .ref b5, .int 0, .int 0, .ref b10, .null, .int 0, .int 0]) rfl 30 (by decide) lk_RX5_40 rfl rfl (v := .ref b7) rfl rfl (Nat.le_of_ble_eq_true rfl) (ws' := (h, .inr (5, [.int 0, .ref b1, .ref b2, .int 0, .int 0, .int 0, .int 0, .int 0, .int 0, .int 0, .int 0, .int 0, .int 0, .int 0, .int 0, .int 0, .int 0, .int 0, .int 0, .int 0, .ref b4, .ref b6, .ref b3, .ref b11, .ref b8, .ref b9, .ref b5, .int 0, .int 0, .ref b10, .ref b7, .int 0, .int 0])) :: (((((((((((Z ++ [(b1, .inl (cI, 48, .inl (fun _ => 0)))]) ++ [(b2, .inl (cI, 48, .inl (fun _ => 0)))]) ++ [(b4, .inl (cI, 48, .inl (fun _ => 0)))]) ++ [(b6, .inl (cI, 48, .inl (fun _ => 0)))]) ++ [(b3, .inl (cI, 48, .inl (fun _ => 0)))]) ++ [(b11, .inl (cI, 240, .inl (fun _ => 0)))]) ++ [(b8, .inl (cI, 5, .inl (fun _ => 0)))]) ++ [(b9, .inl (cI, 5, .inl (fun _ => 0)))]) ++ [(b5, .inl (cI, 48, .inl (fun _ => 0)))]) ++ [(b10, .inl (cI, 48, .inl (fun _ => 0)))]) ++ [(b7, .inl (cI, 6, .inl (fun _ => 0)))])) rfl dX5_init_88 (fun H locs w => ?_)
  have e9 : (h, .inr (5, [.int 0, .ref b1, .ref b2, .int 0, .int 0, .int 0, .int 0, .int 0, .int 0, .int 0, .int 0, .int 0, .int 0, .int 0, .int 0, .int 0, .int 0, .int 0, .int 0, .int 0, .ref b4, .ref b6, .ref b3, .ref b11, .ref b8, .ref b9, .ref b5, .int 0, .int 0, .ref b10, .ref b7, .int 0, .int 0])) :: (((((((((((Z ++ [(b1, .inl (cI, 48, .inl (fun _ => 0)))]) ++ [(b2, .inl (cI, 48, .inl (fun _ => 0)))]) ++ [(b4, .inl (cI, 48, .inl (fun _ => 0)))]) ++ [(b6, .inl (cI, 48, .inl (fun _ => 0)))]) ++ [(b3, .inl (cI, 48, .inl (fun _ => 0)))]) ++ [(b11, .inl (cI, 240, .inl (fun _ => 0)))]) ++ [(b8, .inl (cI, 5, .inl (fun _ => 0)))]) ++ [(b9, .inl (cI, 5, .inl (fun _ => 0)))]) ++ [(b5, .inl (cI, 48, .inl (fun _ => 0)))]) ++ [(b10, .inl (cI, 48, .inl (fun _ => 0)))]) ++ [(b7, .inl (cI, 6, .inl (fun _ => 0)))]) = ([(h, .inr (5, [.int 0, .ref b1, .ref b2, .int 0, .int 0, .int 0, .int 0, .int 0, .int 0, .int 0, .int 0, .int 0, .int 0, .int 0, .int 0, .int 0, .int 0, .int 0, .int 0, .int 0, .ref b4, .ref b6, .ref b3, .ref b11, .ref b8, .ref b9, .ref b5, .int 0, .int 0, .ref b10, .ref b7, .int 0, .int 0]))] ++ Z) ++ [(b1, .inl (cI, 48, .inl (fun _ => 0))), (b2, .inl (cI, 48, .inl (fun _ => 0))), (b4, .inl (cI, 48, .inl (fun _ => 0))), (b6, .inl (cI, 48, .inl (fun _ => 0))), (b3, .inl (cI, 48, .inl (fun _ => 0))), (b11, .inl (cI, 240, .inl (fun _ => 0))), (b8, .inl (cI, 5, .inl (fun _ => 0))), (b9, .inl (cI, 5, .inl (fun _ => 0))), (b5, .inl (cI, 48, .inl (fun _ => 0))), (b10, .inl (cI, 48, .inl (fun _ => 0))), (b7, .inl (cI, 6, .inl (fun _ => 0)))] := by simp only [List.append_assoc, List.cons_append, List.nil_append]
  have w := (w.to e9).swap
  have w : Wd D (kT cI cO) (va_A _ _) _ _ (mW cI cO (fun i => ([h, b1, b2, b3, b4, b5, b6, b7, b8, b9, b10, b11] : List Nat).getD i 0) (fun _ => 0) (fun _ _ => 0) Z) H locs := wd_reord w (h, .inr (5, [.int 0, .ref b1, .ref b2, .int 0, .int 0, .int 0, .int 0, .int 0, .int 0, .int 0, .int 0, .int 0, .int 0, .int 0, .int 0, .int 0, .int 0, .int 0, .int 0, .int 0, .ref b4, .ref b6, .ref b3, .ref b11, .ref b8, .ref b9, .ref b5, .int 0, .int 0, .ref b10, .ref b7, .int 0, .int 0])) [(b1, .inl (cI, 48, .inl (fun _ => 0))), (b2, .inl (cI, 48, .inl (fun _ => 0))), (b4, .inl (cI, 48, .inl (fun _ => 0))), (b6, .inl (cI, 48, .inl (fun _ => 0))), (b3, .inl (cI, 48, .inl (fun _ => 0))), (b11, .inl (cI, 240, .inl (fun _ => 0))), (b8, .inl (cI, 5, .inl (fun _ => 0))), (b9, .inl (cI, 5, .inl (fun _ => 0))), (b5, .inl (cI, 48, .inl (fun _ => 0))), (b10, .inl (cI, 48, .inl (fun _ => 0))), (b7, .inl (cI, 6, .inl (fun _ => 0)))] [0, 1, 4, 2, 8, 3, 10, 6, 7, 9, 5] rfl rfl rfl rfl
  refine lv_aload_n S.1 S.2.1 dX5_init_91 rfl (lv_at hl 0 rfl) ?_
  refine lv_bipush (v := 16) S.1 S.2.1 dX5_init_92 (by decide) ?_
  refine x_Vv (As := [.int 16]) (rest := []) S w (goodV lk_RX5_43 li_X5_begin ls_X5_begin ln_RX5 lc_X5_begin) hV_X5_begin (k_X5_begin l D cI cO (fun i => ([h, b1, b2, b3, b4, b5, b6, b7, b8, b9, b10, b11] : List Nat).getD i 0) Z (fun _ => 0) (fun _ _ => 0) 16) rfl 0 5 rfl rfl mc_0 ⟨(Nat.le_of_ble_eq_true rfl), (Nat.le_of_ble_eq_true rfl)⟩ ⟨rfl, rfl⟩ hl.1 rfl (Nat.le_of_ble_eq_true rfl) ⟨(Nat.le_of_ble_eq_true rfl), (Nat.le_of_ble_eq_true rfl)⟩ dX5_init_94 (fun H locs w => ?_)
  obtain ⟨hK, hP, hD, hS, hA⟩ := w
  exact W.vret S.1 S.2.1 hr (fun t ht hW => ⟨⟨(fun i => ([h, b1, b2, b3, b4, b5, b6, b7, b8, b9, b10, b11] : List Nat).getD i 0), rfl, rfl, by rw [ht]; exact hP, va_K.moved hW.alike hK, hD⟩, hS.F ht⟩) hS.2.2 dX5_init_97 hlk
