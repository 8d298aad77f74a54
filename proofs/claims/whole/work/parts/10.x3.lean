def o_X3_becomeAsAtFirst (s : Nat → Int32) (f : Nat → Nat → Int32) (q : Int32) : (Nat → Int32) := upd (upd (upd (upd (upd (upd (upd (upd (upd (upd (upd s 0 q) 1 500) 2 0) 3 0) 4 1) 5 1000000) 6 4) 7 0) 8 10) 9 2) 10 0
set_option maxHeartbeats 4000000 in
set_option maxRecDepth 100000 in
theorem k_X3_becomeAsAtFirst (l : Launch) (D : va_G) (cI cO : ClassId) (a : Nat → Nat) (R : va_W) (s : Nat → Int32) (f : Nat → Nat → Int32) (q : Int32) : Mv l yX3_becomeAsAtFirst cX3_becomeAsAtFirst 2 none { frames := 0, cells := 0, slots := 0, locals := 0 } D (kT cI cO) (xW cI cO a s f R) [.ref (a 1), .int q] (xW cI cO a (o_X3_becomeAsAtFirst s f q) f R) := by
  intro sz
  refine ent (by decide +kernel) (Nat.le_of_ble_eq_true rfl) ?_
  intro p e st m below meth c ls S hr hlk hnm w hsz hl
  have hl : lv_has ls 2 [(0, .ref (a 1)), (1, .int q)] := hl
  refine lv_aload_n S.1 S.2.1 dX3_becomeAsAtFirst_0 rfl (lv_at hl 0 rfl) ?_
  refine lv_iload_n S.1 S.2.1 dX3_becomeAsAtFirst_1 rfl (lv_at hl 1 rfl) ?_
  refine xp_0 S w lk_RX3_9 dX3_becomeAsAtFirst_2 (fun H locs (w : Wd D (kT cI cO) (va_A _ _) _ _ (xW cI cO a (upd s 0 q) f R) H locs) => ?_)
  refine lv_aload_n S.1 S.2.1 dX3_becomeAsAtFirst_5 rfl (lv_at hl 0 rfl) ?_
  refine lv_sipush (v := 500) S.1 S.2.1 dX3_becomeAsAtFirst_6 (by decide) ?_
  refine xp_1 S w lk_RX3_15 dX3_becomeAsAtFirst_9 (fun H locs (w : Wd D (kT cI cO) (va_A _ _) _ _ (xW cI cO a (upd (upd s 0 q) 1 500) f R) H locs) => ?_)
  refine lv_aload_n S.1 S.2.1 dX3_becomeAsAtFirst_12 rfl (lv_at hl 0 rfl) ?_
  refine lv_iconst (v := 0) S.1 S.2.1 dX3_becomeAsAtFirst_13 (by decide) ?_
  refine xp_2 S w lk_RX3_18 dX3_becomeAsAtFirst_14 (fun H locs (w : Wd D (kT cI cO) (va_A _ _) _ _ (xW cI cO a (upd (upd (upd s 0 q) 1 500) 2 0) f R) H locs) => ?_)
  refine lv_aload_n S.1 S.2.1 dX3_becomeAsAtFirst_17 rfl (lv_at hl 0 rfl) ?_
  refine lv_iconst (v := 0) S.1 S.2.1 dX3_becomeAsAtFirst_18 (by decide) ?_
  refine xp_3 S w lk_RX3_21 dX3_becomeAsAtFirst_19 (fun H locs (w : Wd D (kT cI cO) (va_A _ _) _ _ (xW cI cO a (upd (upd (upd (upd s 0 q) 1 500) 2 0) 3 0) f R) H locs) => ?_)
  refine lv_aload_n S.1 S.2.1 dX3_becomeAsAtFirst_22 rfl (lv_at hl 0 rfl) ?_
  refine lv_iconst (v := 1) S.1 S.2.1 dX3_becomeAsAtFirst_23 (by decide) ?_
  refine xp_4 S w lk_RX3_24 dX3_becomeAsAtFirst_24 (fun H locs (w : Wd D (kT cI cO) (va_A _ _) _ _ (xW cI cO a (upd (upd (upd (upd (upd s 0 q) 1 500) 2 0) 3 0) 4 1) f R) H locs) => ?_)
  refine lv_aload_n S.1 S.2.1 dX3_becomeAsAtFirst_27 rfl (lv_at hl 0 rfl) ?_
  refine x_ldc S lk_RX3_27 dX3_becomeAsAtFirst_28 ?_
  refine xp_5 S w lk_RX3_28 dX3_becomeAsAtFirst_30 (fun H locs (w : Wd D (kT cI cO) (va_A _ _) _ _ (xW cI cO a (upd (upd (upd (upd (upd (upd s 0 q) 1 500) 2 0) 3 0) 4 1) 5 1000000) f R) H locs) => ?_)
  refine lv_aload_n S.1 S.2.1 dX3_becomeAsAtFirst_33 rfl (lv_at hl 0 rfl) ?_
  refine lv_iconst (v := 4) S.1 S.2.1 dX3_becomeAsAtFirst_34 (by decide) ?_
  refine xp_6 S w lk_RX3_31 dX3_becomeAsAtFirst_35 (fun H locs (w : Wd D (kT cI cO) (va_A _ _) _ _ (xW cI cO a (upd (upd (upd (upd (upd (upd (upd s 0 q) 1 500) 2 0) 3 0) 4 1) 5 1000000) 6 4) f R) H locs) => ?_)
  refine lv_aload_n S.1 S.2.1 dX3_becomeAsAtFirst_38 rfl (lv_at hl 0 rfl) ?_
  refine lv_iconst (v := 0) S.1 S.2.1 dX3_becomeAsAtFirst_39 (by decide) ?_
  refine xp_7 S w lk_RX3_34 dX3_becomeAsAtFirst_40 (fun H locs (w : Wd D (kT cI cO) (va_A _ _) _ _ (xW cI cO a (upd (upd (upd (upd (upd (upd (upd (upd s 0 q) 1 500) 2 0) 3 0) 4 1) 5 1000000) 6 4) 7 0) f R) H locs) => ?_)
  refine lv_aload_n S.1 S.2.1 dX3_becomeAsAtFirst_43 rfl (lv_at hl 0 rfl) ?_
  refine lv_bipush (v := 10) S.1 S.2.1 dX3_becomeAsAtFirst_44 (by decide) ?_
  refine xp_8 S w lk_RX3_37 dX3_becomeAsAtFirst_46 (fun H locs (w : Wd D (kT cI cO) (va_A _ _) _ _ (xW cI cO a (upd (upd (upd (upd (upd (upd (upd (upd (upd s 0 q) 1 500) 2 0) 3 0) 4 1) 5 1000000) 6 4) 7 0) 8 10) f R) H locs) => ?_)
  refine lv_aload_n S.1 S.2.1 dX3_becomeAsAtFirst_49 rfl (lv_at hl 0 rfl) ?_
  refine lv_iconst (v := 2) S.1 S.2.1 dX3_becomeAsAtFirst_50 (by decide) ?_
  refine xp_9 S w lk_RX3_40 dX3_becomeAsAtFirst_51 (fun H locs (w : Wd D (kT cI cO) (va_A _ _) _ _ (xW cI cO a (upd (upd (upd (upd (upd (upd (upd (upd (upd (upd s 0 q) 1 500) 2 0) 3 0) 4 1) 5 1000000) 6 4) 7 0) 8 10) 9 2) f R) H locs) => ?_)
  refine lv_aload_n S.1 S.2.1 dX3_becomeAsAtFirst_54 rfl (lv_at hl 0 rfl) ?_
  refine lv_iconst (v := 0) S.1 S.2.1 dX3_becomeAsAtFirst_55 (by decide) ?_
  refine xp_10 S w (Or.inl rfl) lk_RX3_43 dX3_becomeAsAtFirst_56 (fun H locs (w : Wd D (kT cI cO) (va_A _ _) _ _ (xW cI cO a (upd (upd (upd (upd (upd (upd (upd (upd (upd (upd (upd s 0 q) 1 500) 2 0) 3 0) 4 1) 5 1000000) 6 4) 7 0) 8 10) 9 2) 10 0) f R) H locs) => ?_)
  exact x_retv S w hr hlk dX3_becomeAsAtFirst_59 (show xW cI cO a (upd (upd (upd (upd (upd (upd (upd (upd (upd (upd (upd s 0 q) 1 500) 2 0) 3 0) 4 1) 5 1000000) 6 4) 7 0) 8 10) 9 2) 10 0) f R = xW cI cO a (o_X3_becomeAsAtFirst s f q) f R from by simp only [o_X3_becomeAsAtFirst])
def o_X2_becomeAsAtFirst (s : Nat → Int32) (f : Nat → Nat → Int32) : (Nat → Int32) × (Nat → Nat → Int32) := (upd (upd s 17 0) 18 0, va_up (va_up f 6 (pfx 6 (fun _ => 0) (f 6))) 6 (upd (pfx 6 (fun _ => 0) (f 6)) 0 1000))
set_option maxHeartbeats 4000000 in
set_option maxRecDepth 100000 in
theorem k_X2_becomeAsAtFirst (l : Launch) (D : va_G) (cI cO : ClassId) (a : Nat → Nat) (R : va_W) (s : Nat → Int32) (f : Nat → Nat → Int32) : Mv l yX2_becomeAsAtFirst cX2_becomeAsAtFirst 1 none { frames := 1, cells := 0, slots := 0, locals := 23 } D (kT cI cO) (xW cI cO a s f R) [.ref (a 2)] (xW cI cO a (o_X2_becomeAsAtFirst s f).1 (o_X2_becomeAsAtFirst s f).2 R) := by
  intro sz
  refine ent (by decide +kernel) (Nat.le_of_ble_eq_true rfl) ?_
  intro p e st m below meth c ls S hr hlk hnm w hsz hl
  have hl : lv_has ls 1 [(0, .ref (a 2))] := hl
  refine lv_aload_n S.1 S.2.1 dX2_becomeAsAtFirst_0 rfl (lv_at hl 0 rfl) ?_
  refine xr_11 S w lk_RX2_9 dX2_becomeAsAtFirst_1 ?_
  refine lv_iconst (v := 0) S.1 S.2.1 dX2_becomeAsAtFirst_4 (by decide) ?_
  refine x_Sv (As := [.ref (a 11), .int 0]) (rest := []) S w (goodS lk_RX2_13 lt_J7_fill_53178 ln_RJ7 lc_J7_fill_53178) hd_J7_fill_53178 (k_fill6 l D cI cO a R s f) rfl ⟨(Nat.le_of_ble_eq_true rfl), (Nat.le_of_ble_eq_true rfl)⟩ ⟨rfl, rfl⟩ hl.1 rfl (Nat.le_of_ble_eq_true rfl) ⟨Nat.zero_le _, Nat.zero_le _⟩ dX2_becomeAsAtFirst_5 (fun H locs (w : Wd D (kT cI cO) (va_A _ _) _ _ (xW cI cO a s (va_up f 6 (pfx 6 (fun _ => 0) (f 6))) R) H locs) => ?_)
  refine lv_aload_n S.1 S.2.1 dX2_becomeAsAtFirst_8 rfl (lv_at hl 0 rfl) ?_
  refine xr_11 S w lk_RX2_9 dX2_becomeAsAtFirst_9 ?_
  refine lv_iconst (v := 0) S.1 S.2.1 dX2_becomeAsAtFirst_12 (by decide) ?_
  refine lv_sipush (v := 1000) S.1 S.2.1 dX2_becomeAsAtFirst_13 (by decide) ?_
  refine x_iast S w 11 0 (g := pfx 6 (fun _ => 0) (f 6)) 0 (by decide) (rfl) (Nat.le_of_ble_eq_true rfl) (xc_11) rfl (xs_6) dX2_becomeAsAtFirst_16 (fun H locs (w : Wd D (kT cI cO) (va_A _ _) _ _ (xW cI cO a s (va_up (va_up f 6 (pfx 6 (fun _ => 0) (f 6))) 6 (upd (pfx 6 (fun _ => 0) (f 6)) 0 1000)) R) H locs) => ?_)
  refine lv_aload_n S.1 S.2.1 dX2_becomeAsAtFirst_17 rfl (lv_at hl 0 rfl) ?_
  refine lv_iconst (v := 0) S.1 S.2.1 dX2_becomeAsAtFirst_18 (by decide) ?_
  refine xp_17 S w lk_RX2_19 dX2_becomeAsAtFirst_19 (fun H locs (w : Wd D (kT cI cO) (va_A _ _) _ _ (xW cI cO a (upd s 17 0) (va_up (va_up f 6 (pfx 6 (fun _ => 0) (f 6))) 6 (upd (pfx 6 (fun _ => 0) (f 6)) 0 1000)) R) H locs) => ?_)
  refine lv_aload_n S.1 S.2.1 dX2_becomeAsAtFirst_22 rfl (lv_at hl 0 rfl) ?_
  refine lv_iconst (v := 0) S.1 S.2.1 dX2_becomeAsAtFirst_23 (by decide) ?_
  refine xp_18 S w lk_RX2_23 dX2_becomeAsAtFirst_24 (fun H locs (w : Wd D (kT cI cO) (va_A _ _) _ _ (xW cI cO a (upd (upd s 17 0) 18 0) (va_up (va_up f 6 (pfx 6 (fun _ => 0) (f 6))) 6 (upd (pfx 6 (fun _ => 0) (f 6)) 0 1000)) R) H locs) => ?_)
  exact x_retv S w hr hlk dX2_becomeAsAtFirst_27 (show xW cI cO a (upd (upd s 17 0) 18 0) (va_up (va_up f 6 (pfx 6 (fun _ => 0) (f 6))) 6 (upd (pfx 6 (fun _ => 0) (f 6)) 0 1000)) R = xW cI cO a (o_X2_becomeAsAtFirst s f).1 (o_X2_becomeAsAtFirst s f).2 R from by simp only [o_X2_becomeAsAtFirst])
def o_X4_startAnew (s : Nat → Int32) (f : Nat → Nat → Int32) (q : Int32) : (Nat → Int32) × (Nat → Nat → Int32) := (upd (upd (upd (upd (upd (upd (upd (upd (upd (upd (upd (upd (upd (upd (upd (upd (upd (upd (upd (upd (upd s 0 q) 1 500) 2 0) 3 0) 4 1) 5 1000000) 6 4) 7 0) 8 10) 9 2) 10 0) 17 0) 18 0) 19 0) 20 0) 11 0) 12 0) 13 0) 14 0) 15 0) 16 0, va_up (va_up (va_up (va_up f 6 (pfx 6 (fun _ => 0) (f 6))) 6 (upd (pfx 6 (fun _ => 0) (f 6)) 0 1000)) 0 (pfx 48 (fun _ => 0) ((va_up (va_up f 6 (pfx 6 (fun _ => 0) (f 6))) 6 (upd (pfx 6 (fun _ => 0) (f 6)) 0 1000)) 0))) 1 (pfx 48 (fun _ => 0) ((va_up (va_up (va_up f 6 (pfx 6 (fun _ => 0) (f 6))) 6 (upd (pfx 6 (fun _ => 0) (f 6)) 0 1000)) 0 (pfx 48 (fun _ => 0) ((va_up (va_up f 6 (pfx 6 (fun _ => 0) (f 6))) 6 (upd (pfx 6 (fun _ => 0) (f 6)) 0 1000)) 0))) 1)))
set_option maxHeartbeats 4000000 in
set_option maxRecDepth 100000 in
theorem k_X4_startAnew (l : Launch) (D : va_G) (cI cO : ClassId) (a : Nat → Nat) (R : va_W) (s : Nat → Int32) (f : Nat → Nat → Int32) (q : Int32) : Mv l yX4_startAnew cX4_startAnew 2 none { frames := 2, cells := 0, slots := 0, locals := 43 } D (kT cI cO) (xW cI cO a s f R) [.ref (a 0), .int q] (xW cI cO a (o_X4_startAnew s f q).1 (o_X4_startAnew s f q).2 R) := by
  intro sz
  refine ent (by decide +kernel) (Nat.le_of_ble_eq_true rfl) ?_
  intro p e st m below meth c ls S hr hlk hnm w hsz hl
  have hl : lv_has ls 2 [(0, .ref (a 0)), (1, .int q)] := hl
  refine lv_aload_n S.1 S.2.1 dX4_startAnew_0 rfl (lv_at hl 0 rfl) ?_
  refine xr_1 S w lk_RX4_10 dX4_startAnew_1 ?_
  refine lv_iload_n S.1 S.2.1 dX4_startAnew_4 rfl (lv_at hl 1 rfl) ?_
  refine x_Vv (As := [.int q]) (rest := []) S w (goodV lk_RX4_223 li_X3_becomeAsAtFirst ls_X3_becomeAsAtFirst ln_RX3 lc_X3_becomeAsAtFirst) hV_X3_becomeAsAtFirst (k_X3_becomeAsAtFirst l D cI cO a R s f q) rfl 1 3 rfl rfl xc_1 ⟨(Nat.le_of_ble_eq_true rfl), (Nat.le_of_ble_eq_true rfl)⟩ ⟨rfl, rfl⟩ hl.1 rfl (Nat.le_of_ble_eq_true rfl) ⟨Nat.zero_le _, Nat.zero_le _⟩ dX4_startAnew_5 (fun H locs (w : Wd D (kT cI cO) (va_A _ _) _ _ (xW cI cO a (upd (upd (upd (upd (upd (upd (upd (upd (upd (upd (upd s 0 q) 1 500) 2 0) 3 0) 4 1) 5 1000000) 6 4) 7 0) 8 10) 9 2) 10 0) f R) H locs) => ?_)
  refine lv_aload_n S.1 S.2.1 dX4_startAnew_8 rfl (lv_at hl 0 rfl) ?_
  refine xr_2 S w lk_RX4_19 dX4_startAnew_9 ?_
  refine x_Vv (As := []) (rest := []) S w (goodV lk_RX4_226 li_X2_becomeAsAtFirst ls_X2_becomeAsAtFirst ln_RX2 lc_X2_becomeAsAtFirst) hV_X2_becomeAsAtFirst (k_X2_becomeAsAtFirst l D cI cO a R (upd (upd (upd (upd (upd (upd (upd (upd (upd (upd (upd s 0 q) 1 500) 2 0) 3 0) 4 1) 5 1000000) 6 4) 7 0) 8 10) 9 2) 10 0) f) rfl 2 2 rfl rfl xc_2 ⟨(Nat.le_of_ble_eq_true rfl), (Nat.le_of_ble_eq_true rfl)⟩ ⟨rfl, rfl⟩ hl.1 rfl (Nat.le_of_ble_eq_true rfl) ⟨Nat.zero_le _, Nat.zero_le _⟩ dX4_startAnew_12 (fun H locs (w : Wd D (kT cI cO) (va_A _ _) _ _ (xW cI cO a (upd (upd (upd (upd (upd (upd (upd (upd (upd (upd (upd (upd (upd s 0 q) 1 500) 2 0) 3 0) 4 1) 5 1000000) 6 4) 7 0) 8 10) 9 2) 10 0) 17 0) 18 0) (va_up (va_up f 6 (pfx 6 (fun _ => 0) (f 6))) 6 (upd (pfx 6 (fun _ => 0) (f 6)) 0 1000)) R) H locs) => ?_)
  refine lv_aload_n S.1 S.2.1 dX4_startAnew_15 rfl (lv_at hl 0 rfl) ?_
  refine xr_3 S w lk_RX4_26 dX4_startAnew_16 ?_
  refine lv_iconst (v := 0) S.1 S.2.1 dX4_startAnew_19 (by decide) ?_
  refine xp_19 S w lk_RX4_136 dX4_startAnew_20 (fun H locs (w : Wd D (kT cI cO) (va_A _ _) _ _ (xW cI cO a (upd (upd (upd (upd (upd (upd (upd (upd (upd (upd (upd (upd (upd (upd s 0 q) 1 500) 2 0) 3 0) 4 1) 5 1000000) 6 4) 7 0) 8 10) 9 2) 10 0) 17 0) 18 0) 19 0) (va_up (va_up f 6 (pfx 6 (fun _ => 0) (f 6))) 6 (upd (pfx 6 (fun _ => 0) (f 6)) 0 1000)) R) H locs) => ?_)
  refine lv_aload_n S.1 S.2.1 dX4_startAnew_23 rfl (lv_at hl 0 rfl) ?_
  refine xr_4 S w lk_RX4_33 dX4_startAnew_24 ?_
  refine lv_iconst (v := 0) S.1 S.2.1 dX4_startAnew_27 (by decide) ?_
  refine xp_20 S w (Or.inl rfl) lk_RX4_177 dX4_startAnew_28 (fun H locs (w : Wd D (kT cI cO) (va_A _ _) _ _ (xW cI cO a (upd (upd (upd (upd (upd (upd (upd (upd (upd (upd (upd (upd (upd (upd (upd s 0 q) 1 500) 2 0) 3 0) 4 1) 5 1000000) 6 4) 7 0) 8 10) 9 2) 10 0) 17 0) 18 0) 19 0) 20 0) (va_up (va_up f 6 (pfx 6 (fun _ => 0) (f 6))) 6 (upd (pfx 6 (fun _ => 0) (f 6)) 0 1000)) R) H locs) => ?_)
  refine lv_aload_n S.1 S.2.1 dX4_startAnew_31 rfl (lv_at hl 0 rfl) ?_
  refine xr_5 S w lk_RX4_37 dX4_startAnew_32 ?_
  refine lv_iconst (v := 0) S.1 S.2.1 dX4_startAnew_35 (by decide) ?_
  refine x_Sv (As := [.ref (a 5), .int 0]) (rest := []) S w (goodS lk_RX4_228 lt_J7_fill_53178 ln_RJ7 lc_J7_fill_53178) hd_J7_fill_53178 (k_fill0 l D cI cO a R (upd (upd (upd (upd (upd (upd (upd (upd (upd (upd (upd (upd (upd (upd (upd s 0 q) 1 500) 2 0) 3 0) 4 1) 5 1000000) 6 4) 7 0) 8 10) 9 2) 10 0) 17 0) 18 0) 19 0) 20 0) (va_up (va_up f 6 (pfx 6 (fun _ => 0) (f 6))) 6 (upd (pfx 6 (fun _ => 0) (f 6)) 0 1000))) rfl ⟨(Nat.le_of_ble_eq_true rfl), (Nat.le_of_ble_eq_true rfl)⟩ ⟨rfl, rfl⟩ hl.1 rfl (Nat.le_of_ble_eq_true rfl) ⟨Nat.zero_le _, Nat.zero_le _⟩ dX4_startAnew_36 (fun H locs (w : Wd D (kT cI cO) (va_A _ _) _ _ (xW cI cO a (upd (upd (upd (upd (upd (upd (upd (upd (upd (upd (upd (upd (upd (upd (upd s 0 q) 1 500) 2 0) 3 0) 4 1) 5 1000000) 6 4) 7 0) 8 10) 9 2) 10 0) 17 0) 18 0) 19 0) 20 0) (va_up (va_up (va_up f 6 (pfx 6 (fun _ => 0) (f 6))) 6 (upd (pfx 6 (fun _ => 0) (f 6)) 0 1000)) 0 (pfx 48 (fun _ => 0) ((va_up (va_up f 6 (pfx 6 (fun _ => 0) (f 6))) 6 (upd (pfx 6 (fun _ => 0) (f 6)) 0 1000)) 0))) R) H locs) => ?_)
  refine lv_aload_n S.1 S.2.1 dX4_startAnew_39 rfl (lv_at hl 0 rfl) ?_
  refine xr_6 S w lk_RX4_41 dX4_startAnew_40 ?_
  refine lv_iconst (v := 0) S.1 S.2.1 dX4_startAnew_43 (by decide) ?_
  refine x_Sv (As := [.ref (a 6), .int 0]) (rest := []) S w (goodS lk_RX4_228 lt_J7_fill_53178 ln_RJ7 lc_J7_fill_53178) hd_J7_fill_53178 (k_fill1 l D cI cO a R (upd (upd (upd (upd (upd (upd (upd (upd (upd (upd (upd (upd (upd (upd (upd s 0 q) 1 500) 2 0) 3 0) 4 1) 5 1000000) 6 4) 7 0) 8 10) 9 2) 10 0) 17 0) 18 0) 19 0) 20 0) (va_up (va_up (va_up f 6 (pfx 6 (fun _ => 0) (f 6))) 6 (upd (pfx 6 (fun _ => 0) (f 6)) 0 1000)) 0 (pfx 48 (fun _ => 0) ((va_up (va_up f 6 (pfx 6 (fun _ => 0) (f 6))) 6 (upd (pfx 6 (fun _ => 0) (f 6)) 0 1000)) 0)))) rfl ⟨(Nat.le_of_ble_eq_true rfl), (Nat.le_of_ble_eq_true rfl)⟩ ⟨rfl, rfl⟩ hl.1 rfl (Nat.le_of_ble_eq_true rfl) ⟨Nat.zero_le _, Nat.zero_le _⟩ dX4_startAnew_44 (fun H locs (w : Wd D (kT cI cO) (va_A _ _) _ _ (xW cI cO a (upd (upd (upd (upd (upd (upd (upd (upd (upd (upd (upd (upd (upd (upd (upd s 0 q) 1 500) 2 0) 3 0) 4 1) 5 1000000) 6 4) 7 0) 8 10) 9 2) 10 0) 17 0) 18 0) 19 0) 20 0) (va_up (va_up (va_up (va_up f 6 (pfx 6 (fun _ => 0) (f 6))) 6 (upd (pfx 6 (fun _ => 0) (f 6)) 0 1000)) 0 (pfx 48 (fun _ => 0) ((va_up (va_up f 6 (pfx 6 (fun _ => 0) (f 6))) 6 (upd (pfx 6 (fun _ => 0) (f 6)) 0 1000)) 0))) 1 (pfx 48 (fun _ => 0) ((va_up (va_up (va_up f 6 (pfx 6 (fun _ => 0) (f 6))) 6 (upd (pfx 6 (fun _ => 0) (f 6)) 0 1000)) 0 (pfx 48 (fun _ => 0) ((va_up (va_up f 6 (pfx 6 (fun _ => 0) (f 6))) 6 (upd (pfx 6 (fun _ => 0) (f 6)) 0 1000)) 0))) 1))) R) H locs) => ?_)
  refine lv_aload_n S.1 S.2.1 dX4_startAnew_47 rfl (lv_at hl 0 rfl) ?_
  refine lv_iconst (v := 0) S.1 S.2.1 dX4_startAnew_48 (by decide) ?_
  refine xp_11 S w (Or.inl rfl) lk_RX4_112 dX4_startAnew_49 (fun H locs (w : Wd D (kT cI cO) (va_A _ _) _ _ (xW cI cO a (upd (upd (upd (upd (upd (upd (upd (upd (upd (upd (upd (upd (upd (upd (upd (upd s 0 q) 1 500) 2 0) 3 0) 4 1) 5 1000000) 6 4) 7 0) 8 10) 9 2) 10 0) 17 0) 18 0) 19 0) 20 0) 11 0) (va_up (va_up (va_up (va_up f 6 (pfx 6 (fun _ => 0) (f 6))) 6 (upd (pfx 6 (fun _ => 0) (f 6)) 0 1000)) 0 (pfx 48 (fun _ => 0) ((va_up (va_up f 6 (pfx 6 (fun _ => 0) (f 6))) 6 (upd (pfx 6 (fun _ => 0) (f 6)) 0 1000)) 0))) 1 (pfx 48 (fun _ => 0) ((va_up (va_up (va_up f 6 (pfx 6 (fun _ => 0) (f 6))) 6 (upd (pfx 6 (fun _ => 0) (f 6)) 0 1000)) 0 (pfx 48 (fun _ => 0) ((va_up (va_up f 6 (pfx 6 (fun _ => 0) (f 6))) 6 (upd (pfx 6 (fun _ => 0) (f 6)) 0 1000)) 0))) 1))) R) H locs) => ?_)
  refine lv_aload_n S.1 S.2.1 dX4_startAnew_52 rfl (lv_at hl 0 rfl) ?_
  refine lv_iconst (v := 0) S.1 S.2.1 dX4_startAnew_53 (by decide) ?_
  refine xp_12 S w lk_RX4_126 dX4_startAnew_54 (fun H locs (w : Wd D (kT cI cO) (va_A _ _) _ _ (xW cI cO a (upd (upd (upd (upd (upd (upd (upd (upd (upd (upd (upd (upd (upd (upd (upd (upd (upd s 0 q) 1 500) 2 0) 3 0) 4 1) 5 1000000) 6 4) 7 0) 8 10) 9 2) 10 0) 17 0) 18 0) 19 0) 20 0) 11 0) 12 0) (va_up (va_up (va_up (va_up f 6 (pfx 6 (fun _ => 0) (f 6))) 6 (upd (pfx 6 (fun _ => 0) (f 6)) 0 1000)) 0 (pfx 48 (fun _ => 0) ((va_up (va_up f 6 (pfx 6 (fun _ => 0) (f 6))) 6 (upd (pfx 6 (fun _ => 0) (f 6)) 0 1000)) 0))) 1 (pfx 48 (fun _ => 0) ((va_up (va_up (va_up f 6 (pfx 6 (fun _ => 0) (f 6))) 6 (upd (pfx 6 (fun _ => 0) (f 6)) 0 1000)) 0 (pfx 48 (fun _ => 0) ((va_up (va_up f 6 (pfx 6 (fun _ => 0) (f 6))) 6 (upd (pfx 6 (fun _ => 0) (f 6)) 0 1000)) 0))) 1))) R) H locs) => ?_)
  refine lv_aload_n S.1 S.2.1 dX4_startAnew_57 rfl (lv_at hl 0 rfl) ?_
  refine lv_iconst (v := 0) S.1 S.2.1 dX4_startAnew_58 (by decide) ?_
  refine xp_13 S w lk_RX4_119 dX4_startAnew_59 (fun H locs (w : Wd D (kT cI cO) (va_A _ _) _ _ (xW cI cO a (upd (upd (upd (upd (upd (upd (upd (upd (upd (upd (upd (upd (upd (upd (upd (upd (upd (upd s 0 q) 1 500) 2 0) 3 0) 4 1) 5 1000000) 6 4) 7 0) 8 10) 9 2) 10 0) 17 0) 18 0) 19 0) 20 0) 11 0) 12 0) 13 0) (va_up (va_up (va_up (va_up f 6 (pfx 6 (fun _ => 0) (f 6))) 6 (upd (pfx 6 (fun _ => 0) (f 6)) 0 1000)) 0 (pfx 48 (fun _ => 0) ((va_up (va_up f 6 (pfx 6 (fun _ => 0) (f 6))) 6 (upd (pfx 6 (fun _ => 0) (f 6)) 0 1000)) 0))) 1 (pfx 48 (fun _ => 0) ((va_up (va_up (va_up f 6 (pfx 6 (fun _ => 0) (f 6))) 6 (upd (pfx 6 (fun _ => 0) (f 6)) 0 1000)) 0 (pfx 48 (fun _ => 0) ((va_up (va_up f 6 (pfx 6 (fun _ => 0) (f 6))) 6 (upd (pfx 6 (fun _ => 0) (f 6)) 0 1000)) 0))) 1))) R) H locs) => ?_)
  refine lv_aload_n S.1 S.2.1 dX4_startAnew_62 rfl (lv_at hl 0 rfl) ?_
  refine lv_iconst (v := 0) S.1 S.2.1 dX4_startAnew_63 (by decide) ?_
  refine xp_14 S w lk_RX4_130 dX4_startAnew_64 (fun H locs (w : Wd D (kT cI cO) (va_A _ _) _ _ (xW cI cO a (upd (upd (upd (upd (upd (upd (upd (upd (upd (upd (upd (upd (upd (upd (upd (upd (upd (upd (upd s 0 q) 1 500) 2 0) 3 0) 4 1) 5 1000000) 6 4) 7 0) 8 10) 9 2) 10 0) 17 0) 18 0) 19 0) 20 0) 11 0) 12 0) 13 0) 14 0) (va_up (va_up (va_up (va_up f 6 (pfx 6 (fun _ => 0) (f 6))) 6 (upd (pfx 6 (fun _ => 0) (f 6)) 0 1000)) 0 (pfx 48 (fun _ => 0) ((va_up (va_up f 6 (pfx 6 (fun _ => 0) (f 6))) 6 (upd (pfx 6 (fun _ => 0) (f 6)) 0 1000)) 0))) 1 (pfx 48 (fun _ => 0) ((va_up (va_up (va_up f 6 (pfx 6 (fun _ => 0) (f 6))) 6 (upd (pfx 6 (fun _ => 0) (f 6)) 0 1000)) 0 (pfx 48 (fun _ => 0) ((va_up (va_up f 6 (pfx 6 (fun _ => 0) (f 6))) 6 (upd (pfx 6 (fun _ => 0) (f 6)) 0 1000)) 0))) 1))) R) H locs) => ?_)
  refine lv_aload_n S.1 S.2.1 dX4_startAnew_67 rfl (lv_at hl 0 rfl) ?_
  refine lv_iconst (v := 0) S.1 S.2.1 dX4_startAnew_68 (by decide) ?_
  refine xp_15 S w lk_RX4_139 dX4_startAnew_69 (fun H locs (w : Wd D (kT cI cO) (va_A _ _) _ _ (xW cI cO a (upd (upd (upd (upd (upd (upd (upd (upd (upd (upd (upd (upd (upd (upd (upd (upd (upd (upd (upd (upd s 0 q) 1 500) 2 0) 3 0) 4 1) 5 1000000) 6 4) 7 0) 8 10) 9 2) 10 0) 17 0) 18 0) 19 0) 20 0) 11 0) 12 0) 13 0) 14 0) 15 0) (va_up (va_up (va_up (va_up f 6 (pfx 6 (fun _ => 0) (f 6))) 6 (upd (pfx 6 (fun _ => 0) (f 6)) 0 1000)) 0 (pfx 48 (fun _ => 0) ((va_up (va_up f 6 (pfx 6 (fun _ => 0) (f 6))) 6 (upd (pfx 6 (fun _ => 0) (f 6)) 0 1000)) 0))) 1 (pfx 48 (fun _ => 0) ((va_up (va_up (va_up f 6 (pfx 6 (fun _ => 0) (f 6))) 6 (upd (pfx 6 (fun _ => 0) (f 6)) 0 1000)) 0 (pfx 48 (fun _ => 0) ((va_up (va_up f 6 (pfx 6 (fun _ => 0) (f 6))) 6 (upd (pfx 6 (fun _ => 0) (f 6)) 0 1000)) 0))) 1))) R) H locs) => ?_)
  refine lv_aload_n S.1 S.2.1 dX4_startAnew_72 rfl (lv_at hl 0 rfl) ?_
  refine lv_iconst (v := 0) S.1 S.2.1 dX4_startAnew_73 (by decide) ?_
  refine xp_16 S w lk_RX4_142 dX4_startAnew_74 (fun H locs (w : Wd D (kT cI cO) (va_A _ _) _ _ (xW cI cO a (upd (upd (upd (upd (upd (upd (upd (upd (upd (upd (upd (upd (upd (upd (upd (upd (upd (upd (upd (upd (upd s 0 q) 1 500) 2 0) 3 0) 4 1) 5 1000000) 6 4) 7 0) 8 10) 9 2) 10 0) 17 0) 18 0) 19 0) 20 0) 11 0) 12 0) 13 0) 14 0) 15 0) 16 0) (va_up (va_up (va_up (va_up f 6 (pfx 6 (fun _ => 0) (f 6))) 6 (upd (pfx 6 (fun _ => 0) (f 6)) 0 1000)) 0 (pfx 48 (fun _ => 0) ((va_up (va_up f 6 (pfx 6 (fun _ => 0) (f 6))) 6 (upd (pfx 6 (fun _ => 0) (f 6)) 0 1000)) 0))) 1 (pfx 48 (fun _ => 0) ((va_up (va_up (va_up f 6 (pfx 6 (fun _ => 0) (f 6))) 6 (upd (pfx 6 (fun _ => 0) (f 6)) 0 1000)) 0 (pfx 48 (fun _ => 0) ((va_up (va_up f 6 (pfx 6 (fun _ => 0) (f 6))) 6 (upd (pfx 6 (fun _ => 0) (f 6)) 0 1000)) 0))) 1))) R) H locs) => ?_)
  exact x_retv S w hr hlk dX4_startAnew_77 (show xW cI cO a (upd (upd (upd (upd (upd (upd (upd (upd (upd (upd (upd (upd (upd (upd (upd (upd (upd (upd (upd (upd (upd s 0 q) 1 500) 2 0) 3 0) 4 1) 5 1000000) 6 4) 7 0) 8 10) 9 2) 10 0) 17 0) 18 0) 19 0) 20 0) 11 0) 12 0) 13 0) 14 0) 15 0) 16 0) (va_up (va_up (va_up (va_up f 6 (pfx 6 (fun _ => 0) (f 6))) 6 (upd (pfx 6 (fun _ => 0) (f 6)) 0 1000)) 0 (pfx 48 (fun _ => 0) ((va_up (va_up f 6 (pfx 6 (fun _ => 0) (f 6))) 6 (upd (pfx 6 (fun _ => 0) (f 6)) 0 1000)) 0))) 1 (pfx 48 (fun _ => 0) ((va_up (va_up (va_up f 6 (pfx 6 (fun _ => 0) (f 6))) 6 (upd (pfx 6 (fun _ => 0) (f 6)) 0 1000)) 0 (pfx 48 (fun _ => 0) ((va_up (va_up f 6 (pfx 6 (fun _ => 0) (f 6))) 6 (upd (pfx 6 (fun _ => 0) (f 6)) 0 1000)) 0))) 1))) R = xW cI cO a (o_X4_startAnew s f q).1 (o_X4_startAnew s f q).2 R from by simp only [o_X4_startAnew])
def o_X4_reset (s : Nat → Int32) (f : Nat → Nat → Int32) (q : Int32) : Int32 × (Nat → Int32) × (Nat → Nat → Int32) := if (wIn q 4 48) = 0 then ((-2000000001), s, f) else (s 0, upd (upd (upd (upd (upd (upd (upd (upd (upd (upd (upd (upd (upd (upd (upd (upd (upd (upd (upd (upd (upd s 0 q) 1 500) 2 0) 3 0) 4 1) 5 1000000) 6 4) 7 0) 8 10) 9 2) 10 0) 17 0) 18 0) 19 0) 20 0) 11 0) 12 0) 13 0) 14 0) 15 0) 16 0, va_up (va_up (va_up (va_up f 6 (pfx 6 (fun _ => 0) (f 6))) 6 (upd (pfx 6 (fun _ => 0) (f 6)) 0 1000)) 0 (pfx 48 (fun _ => 0) ((va_up (va_up f 6 (pfx 6 (fun _ => 0) (f 6))) 6 (upd (pfx 6 (fun _ => 0) (f 6)) 0 1000)) 0))) 1 (pfx 48 (fun _ => 0) ((va_up (va_up (va_up f 6 (pfx 6 (fun _ => 0) (f 6))) 6 (upd (pfx 6 (fun _ => 0) (f 6)) 0 1000)) 0 (pfx 48 (fun _ => 0) ((va_up (va_up f 6 (pfx 6 (fun _ => 0) (f 6))) 6 (upd (pfx 6 (fun _ => 0) (f 6)) 0 1000)) 0))) 1)))
set_option maxHeartbeats 4000000 in
set_option maxRecDepth 100000 in
theorem k_X4_reset (l : Launch) (D : va_G) (cI cO : ClassId) (a : Nat → Nat) (R : va_W) (s : Nat → Int32) (f : Nat → Nat → Int32) (q : Int32) : Mi l yX4_reset cX4_reset 3 (some .int) { frames := 3, cells := 0, slots := 0, locals := 64 } D (kT cI cO) (xW cI cO a s f R) [.ref (a 0), .int q] (xW cI cO a (o_X4_reset s f q).2.1 (o_X4_reset s f q).2.2 R) (o_X4_reset s f q).1 := by
  intro sz
  refine ent (by decide +kernel) (Nat.le_of_ble_eq_true rfl) ?_
  intro p e st m below meth c ls S hr hlk hnm w hsz hl
  have hl : lv_has ls 3 [(0, .ref (a 0)), (1, .int q)] := hl
  refine lv_iload_n S.1 S.2.1 dX4_reset_0 rfl (lv_at hl 1 rfl) ?_
  refine lv_iconst (v := 4) S.1 S.2.1 dX4_reset_1 (by decide) ?_
  refine lv_bipush (v := 48) S.1 S.2.1 dX4_reset_2 (by decide) ?_
  refine x_Si (As := [.int q, .int 4, .int 48]) (rest := []) S w (goodS lk_RX4_60 lt_X4_isWithin ln_RX4 lc_X4_isWithin) hd_X4_isWithin (k_X4_isWithin l _ _ (xW cI cO a s f R) q 4 48) rfl ⟨(Nat.le_of_ble_eq_true rfl), (Nat.le_of_ble_eq_true rfl)⟩ ⟨rfl, rfl⟩ hl.1 rfl (Nat.le_of_ble_eq_true rfl) ⟨Nat.zero_le _, Nat.zero_le _⟩ dX4_reset_4 (fun H locs (w : Wd D (kT cI cO) (va_A _ _) _ _ (xW cI cO a s f R) H locs) => ?_)
  refine lv_if_ne (tgt := 13) S.1 S.2.1 dX4_reset_7 (by decide) (fun (c_1 : ¬ (wIn q 4 48) = 0) => ?_) (fun (c_1 : (wIn q 4 48) = 0) => ?_)
  · refine lv_aload_n S.1 S.2.1 dX4_reset_13 rfl (lv_at hl 0 rfl) ?_
    refine xr_1 S w lk_RX4_10 dX4_reset_14 ?_
    refine xg_0 S w lk_RX4_65 dX4_reset_17 ?_
    refine lv_istore_n (lv' := [(2, .int (s 0)), (0, .ref (a 0)), (1, .int q)]) S.1 S.2.1 dX4_reset_20 rfl hl (by decide) rfl (fun ls hl => ?_)
    refine lv_aload_n S.1 S.2.1 dX4_reset_21 rfl (lv_at hl 1 rfl) ?_
    refine lv_iload_n S.1 S.2.1 dX4_reset_22 rfl (lv_at hl 2 rfl) ?_
    refine x_Vv (As := [.int q]) (rest := []) S w (goodV lk_RX4_56 li_X4_startAnew ls_X4_startAnew ln_RX4 lc_X4_startAnew) hV_X4_startAnew (k_X4_startAnew l D cI cO a R s f q) rfl 0 4 rfl rfl xc_0 ⟨(Nat.le_of_ble_eq_true rfl), (Nat.le_of_ble_eq_true rfl)⟩ ⟨rfl, rfl⟩ hl.1 rfl (Nat.le_of_ble_eq_true rfl) ⟨Nat.zero_le _, Nat.zero_le _⟩ dX4_reset_23 (fun H locs (w : Wd D (kT cI cO) (va_A _ _) _ _ (xW cI cO a (upd (upd (upd (upd (upd (upd (upd (upd (upd (upd (upd (upd (upd (upd (upd (upd (upd (upd (upd (upd (upd s 0 q) 1 500) 2 0) 3 0) 4 1) 5 1000000) 6 4) 7 0) 8 10) 9 2) 10 0) 17 0) 18 0) 19 0) 20 0) 11 0) 12 0) 13 0) 14 0) 15 0) 16 0) (va_up (va_up (va_up (va_up f 6 (pfx 6 (fun _ => 0) (f 6))) 6 (upd (pfx 6 (fun _ => 0) (f 6)) 0 1000)) 0 (pfx 48 (fun _ => 0) ((va_up (va_up f 6 (pfx 6 (fun _ => 0) (f 6))) 6 (upd (pfx 6 (fun _ => 0) (f 6)) 0 1000)) 0))) 1 (pfx 48 (fun _ => 0) ((va_up (va_up (va_up f 6 (pfx 6 (fun _ => 0) (f 6))) 6 (upd (pfx 6 (fun _ => 0) (f 6)) 0 1000)) 0 (pfx 48 (fun _ => 0) ((va_up (va_up f 6 (pfx 6 (fun _ => 0) (f 6))) 6 (upd (pfx 6 (fun _ => 0) (f 6)) 0 1000)) 0))) 1))) R) H locs) => ?_)
    refine lv_iload_n S.1 S.2.1 dX4_reset_26 rfl (lv_at hl 0 rfl) ?_
    exact x_reti S w hr hlk dX4_reset_27 (show s 0 = (o_X4_reset s f q).1 from by simp only [o_X4_reset, if_neg c_1]) (show xW cI cO a (upd (upd (upd (upd (upd (upd (upd (upd (upd (upd (upd (upd (upd (upd (upd (upd (upd (upd (upd (upd (upd s 0 q) 1 500) 2 0) 3 0) 4 1) 5 1000000) 6 4) 7 0) 8 10) 9 2) 10 0) 17 0) 18 0) 19 0) 20 0) 11 0) 12 0) 13 0) 14 0) 15 0) 16 0) (va_up (va_up (va_up (va_up f 6 (pfx 6 (fun _ => 0) (f 6))) 6 (upd (pfx 6 (fun _ => 0) (f 6)) 0 1000)) 0 (pfx 48 (fun _ => 0) ((va_up (va_up f 6 (pfx 6 (fun _ => 0) (f 6))) 6 (upd (pfx 6 (fun _ => 0) (f 6)) 0 1000)) 0))) 1 (pfx 48 (fun _ => 0) ((va_up (va_up (va_up f 6 (pfx 6 (fun _ => 0) (f 6))) 6 (upd (pfx 6 (fun _ => 0) (f 6)) 0 1000)) 0 (pfx 48 (fun _ => 0) ((va_up (va_up f 6 (pfx 6 (fun _ => 0) (f 6))) 6 (upd (pfx 6 (fun _ => 0) (f 6)) 0 1000)) 0))) 1))) R = xW cI cO a (o_X4_reset s f q).2.1 (o_X4_reset s f q).2.2 R from by simp only [o_X4_reset, if_neg c_1])
  · refine x_ldc S lk_RX4_64 dX4_reset_10 ?_
    exact x_reti S w hr hlk dX4_reset_12 (show (-2000000001) = (o_X4_reset s f q).1 from by simp only [o_X4_reset, if_pos c_1]) (show xW cI cO a s f R = xW cI cO a (o_X4_reset s f q).2.1 (o_X4_reset s f q).2.2 R from by simp only [o_X4_reset, if_pos c_1])
def stdy (er : Nat → Int32) (tol : Int32) : Nat → Int32
  | 0 => 1
  | n + 1 => if stdy er tol n = 0 then 0 else if iabs (er n) ≤ tol then 1 else 0
theorem stdy_b (er : Nat → Int32) (tol : Int32) (n : Nat) : stdy er tol n = 0 ∨ stdy er tol n = 1 := by
  cases n with
  | zero => exact Or.inr rfl
  | succ n =>
    unfold stdy
    split
    · exact Or.inl rfl
    · split
      · exact Or.inr rfl
      · exact Or.inl rfl
theorem stdy_0 {er : Nat → Int32} {tol : Int32} {i n : Nat} (h : i ≤ n) (h0 : stdy er tol i = 0) : stdy er tol n = 0 := by
  induction n with
  | zero => have : i = 0 := by omega
            subst this; exact h0
  | succ n ih =>
    by_cases h1 : i = n + 1
    · subst h1; exact h0
    · unfold stdy; rw [if_pos (ih (by omega))]
theorem stdy_s1 {er : Nat → Int32} {tol : Int32} {i : Nat} (h : stdy er tol i = 1) (h1 : iabs (er i) ≤ tol) : stdy er tol (i + 1) = 1 := by
  unfold stdy; rw [h, if_neg (by decide), if_pos h1]
theorem stdy_s0 {er : Nat → Int32} {tol : Int32} {i n : Nat} (hn : i < n) (h1 : ¬ iabs (er i) ≤ tol) : stdy er tol n = 0 := by
  refine stdy_0 (i := i + 1) hn ?_
  unfold stdy
  by_cases h2 : stdy er tol i = 0
  · rw [if_pos h2]
  · rw [if_neg h2, if_neg h1]
def o_X1_staysWithin_13 (s : Nat → Int32) (f : Nat → Nat → Int32) (K : Nat) (h : Nat) (k : Int32) (t : Int32) : Int32 := stdy (fun y => f (10 + slt (s 19) (nI y)) (Int32.toNatClampNeg k)) t h
set_option maxHeartbeats 4000000 in
set_option maxRecDepth 100000 in
theorem j_X1_staysWithin_13 {p : Program} {e : Env} {st : State} {m : MethodId} {args : Array Value} {below : List Frame} {meth : Method} {c : Code} {ws0 : va_W} {sz : Nat} (l : Launch) (D : va_G) (cI cO : ClassId) (a : Nat → Nat) (R : va_W) (s : Nat → Int32) (f : Nat → Nat → Int32) (N : Nat) (K : Nat) (h : Nat) (k : Int32) (t : Int32) (hK : s 19 = nI K) (hK2 : K < 1000000) (hh1 : 1 ≤ h) (hh5 : h ≤ 5) (h48 : N ≤ 48) (hj : Int32.toNatClampNeg k < N ∧ k = nI (Int32.toNatClampNeg k)) (S : CallFix p m c cX1_staysWithin 5 st args wsL_law RX1) (hr : meth.sig.returnType = (some .boolean)) (hlk : meth.locks = false) : ∀ (n : Nat) (i : Nat) (H : Heap) (locs : List Loc) (ls : Array Slot), h + 1 ≤ i + n → i ≤ h → h ≤ K → stdy (fun y => f (10 + slt (s 19) (nI y)) (Int32.toNatClampNeg k)) t i = 1 → Wd D (kT cI cO) (va_A ws0 sz) st.heap st (xW cI cO a s f R) H locs → lv_has ls 5 [(0, .ref (a 3)), (1, .int k), (2, .int (nI h)), (3, .int t), (4, .int (nI i))] → W p l e { frames := 3, cells := 0, slots := 0, locals := 64 } st m args below meth c H locs 0 0 (MQ below (mQi D (kT cI cO) ws0 sz (xW cI cO a s f R) (o_X1_staysWithin_13 s f K h k t)) args st 0 0 (va_A ws0 sz)) (F0 m 13 ls []) := by
  intro n
  induction n with
  | zero => intro i H locs ls hfu hi hKh h1 w hl; exact absurd hfu (by omega)
  | succ n ih =>
    intro i H locs ls hfu hi hKh h1 w hl
    refine lv_iload S.1 S.2.1 dX1_staysWithin_13 (lv_at hl 4 rfl) ?_
    refine lv_iload_n S.1 S.2.1 dX1_staysWithin_15 rfl (lv_at hl 2 rfl) ?_
    refine lv_icmp_ge (tgt := 42) S.1 S.2.1 dX1_staysWithin_16 (by decide) (fun (c_1 : (nI h) ≤ (nI i)) => ?_) (fun (c_1 : ¬ ((nI h) ≤ (nI i))) => ?_)
    · have he : i = h := by
        have := (nI_leI (a := h) (b := i) (by omega) (by omega)).mp c_1
        omega
      subst i
      refine lv_iconst (v := 1) S.1 S.2.1 dX1_staysWithin_42 (by decide) ?_
      exact x_retz S w hr hlk dX1_staysWithin_43 (Or.inr rfl) (show 1 = o_X1_staysWithin_13 s f K h k t from by rw [o_X1_staysWithin_13, h1]) (show xW cI cO a s f R = xW cI cO a s f R from rfl)
    · have hlt : i < h := Nat.lt_of_not_le (fun z => c_1 (nI_le z (by omega)))
      refine lv_aload_n S.1 S.2.1 dX1_staysWithin_19 rfl (lv_at hl 0 rfl) ?_
      refine lv_iload S.1 S.2.1 dX1_staysWithin_20 (lv_at hl 4 rfl) ?_
      refine x_Vr (As := [.int (nI i)]) (rest := []) S w (goodV lk_RX1_40 li_X1_errorsOf ls_X1_errorsOf ln_RX1 lc_X1_errorsOf) hV_X1_errorsOf (k_X1_errorsOf l D cI cO a R s f K i (nI i) hK hK2 rfl (by omega)) rfl 3 1 rfl rfl xc_3 ⟨(Nat.le_of_ble_eq_true rfl), (Nat.le_of_ble_eq_true rfl)⟩ ⟨rfl, rfl⟩ hl.1 rfl (Nat.le_of_ble_eq_true rfl) ⟨Nat.zero_le _, Nat.zero_le _⟩ dX1_staysWithin_22 (fun H locs (w : Wd D (kT cI cO) (va_A _ _) _ _ (xW cI cO a s f R) H locs) => ?_)
      refine lv_iload_n S.1 S.2.1 dX1_staysWithin_25 rfl (lv_at hl 1 rfl) ?_
      refine x_iald S w (16 + (slt (s 19) (nI i))) 0 (g := f (10 + (slt (s 19) (nI i)))) (v := (f (10 + (slt (s 19) (nI i)))) (Int32.toNatClampNeg k)) (Int32.toNatClampNeg k) (by have := hj.1; omega) (hj.2) (Nat.le_of_ble_eq_true rfl) (x_row (by first | exact slt_lt _ _ | omega)) rfl (rfl) dX1_staysWithin_26 ?_
      refine x_mabs S lk_RX1_37 hl.1 (Nat.le_of_ble_eq_true rfl) (Nat.le_of_ble_eq_true rfl) (Nat.zero_le _) (Nat.zero_le _) dX1_staysWithin_27 ?_
      refine lv_iload_n S.1 S.2.1 dX1_staysWithin_30 rfl (lv_at hl 3 rfl) ?_
      refine lv_icmp_le (tgt := 36) S.1 S.2.1 dX1_staysWithin_31 (by decide) (fun (c_2 : (iabs ((f (10 + (slt (s 19) (nI i)))) (Int32.toNatClampNeg k))) ≤ t) => ?_) (fun (c_2 : ¬ ((iabs ((f (10 + (slt (s 19) (nI i)))) (Int32.toNatClampNeg k))) ≤ t)) => ?_)
      · have hs1 := stdy_s1 h1 c_2
        refine lv_iinc (v := nI (i + 1)) (lv' := [(4, .int (nI (i + 1))), (0, .ref (a 3)), (1, .int k), (2, .int (nI h)), (3, .int t)]) S.1 S.2.1 dX1_staysWithin_36 hl (k := 4) rfl (x_inc _) (by decide) rfl (fun ls hl => ?_)
        refine lv_goto (tgt := 13) S.1 S.2.1 dX1_staysWithin_39 (by decide) ?_
        exact ih (i + 1) _ _ _ (by omega) (by omega) hKh hs1 w (lv_sub hl [1, 2, 3, 4, 0] rfl)
      · have hs0 : stdy (fun y => f (10 + slt (s 19) (nI y)) (Int32.toNatClampNeg k)) t h = 0 := stdy_s0 hlt c_2
        refine lv_iconst (v := 0) S.1 S.2.1 dX1_staysWithin_34 (by decide) ?_
        exact x_retz S w hr hlk dX1_staysWithin_35 (Or.inl rfl) (show 0 = o_X1_staysWithin_13 s f K h k t from by rw [o_X1_staysWithin_13, hs0]) (show xW cI cO a s f R = xW cI cO a s f R from rfl)
def o_X1_staysWithin (s : Nat → Int32) (f : Nat → Nat → Int32) (K : Nat) (h : Nat) (k : Int32) (t : Int32) : Int32 := if (nI h) ≤ (nI K) then o_X1_staysWithin_13 s f K h k t else 0
set_option maxHeartbeats 4000000 in
set_option maxRecDepth 100000 in
theorem k_X1_staysWithin (l : Launch) (D : va_G) (cI cO : ClassId) (a : Nat → Nat) (R : va_W) (s : Nat → Int32) (f : Nat → Nat → Int32) (N : Nat) (K : Nat) (h : Nat) (k : Int32) (t : Int32) (hK : s 19 = nI K) (hK2 : K < 1000000) (hh1 : 1 ≤ h) (hh5 : h ≤ 5) (h48 : N ≤ 48) (hj : Int32.toNatClampNeg k < N ∧ k = nI (Int32.toNatClampNeg k)) : Mi l yX1_staysWithin cX1_staysWithin 5 (some .boolean) { frames := 3, cells := 0, slots := 0, locals := 64 } D (kT cI cO) (xW cI cO a s f R) [.ref (a 3), .int k, .int (nI h), .int t] (xW cI cO a s f R) (o_X1_staysWithin s f K h k t) := by
  intro sz
  refine ent (by decide +kernel) (Nat.le_of_ble_eq_true rfl) ?_
  intro p e st m below meth c ls S hr hlk hnm w hsz hl
  have hl : lv_has ls 5 [(0, .ref (a 3)), (1, .int k), (2, .int (nI h)), (3, .int t)] := hl
  refine lv_aload_n S.1 S.2.1 dX1_staysWithin_0 rfl (lv_at hl 0 rfl) ?_
  refine xg_19 S w lk_RX1_23 dX1_staysWithin_1 ?_
  refine x_eqi (x := s 19) (y := nI K) (hK) ?_
  refine lv_iload_n S.1 S.2.1 dX1_staysWithin_4 rfl (lv_at hl 2 rfl) ?_
  refine lv_icmp_ge (tgt := 10) S.1 S.2.1 dX1_staysWithin_5 (by decide) (fun (c_3 : (nI h) ≤ (nI K)) => ?_) (fun (c_3 : ¬ ((nI h) ≤ (nI K))) => ?_)
  · have hKh : h ≤ K := Nat.le_of_not_lt (fun z => nI_ge z (by omega) c_3)
    refine lv_iconst (v := 0) S.1 S.2.1 dX1_staysWithin_10 (by decide) ?_
    refine lv_istore (lv' := [(4, .int 0), (0, .ref (a 3)), (1, .int k), (2, .int (nI h)), (3, .int t)]) S.1 S.2.1 dX1_staysWithin_11 hl (by decide) rfl (fun ls hl => ?_)
    refine x_toi (show o_X1_staysWithin_13 s f K h k t = o_X1_staysWithin s f K h k t from by simp only [o_X1_staysWithin, if_pos c_3]) (show xW cI cO a s f R = xW cI cO a s f R from by simp only [o_X1_staysWithin, if_pos c_3]) ?_
    exact j_X1_staysWithin_13 l D cI cO a R s f N K h k t hK hK2 hh1 hh5 h48 hj S hr hlk (h + 1) 0 _ _ _ (by omega) (by omega) hKh rfl w (lv_sub hl [1, 2, 3, 4, 0] rfl)
  · refine lv_iconst (v := 0) S.1 S.2.1 dX1_staysWithin_8 (by decide) ?_
    exact x_retz S w hr hlk dX1_staysWithin_9 (Or.inl rfl) (show 0 = o_X1_staysWithin s f K h k t from by simp only [o_X1_staysWithin, if_neg c_3]) (show xW cI cO a s f R = xW cI cO a s f R from rfl)
theorem staysW_b (s : Nat → Int32) (f : Nat → Nat → Int32) (K h : Nat) (k t : Int32) : o_X1_staysWithin s f K h k t = 0 ∨ o_X1_staysWithin s f K h k t = 1 := by
  unfold o_X1_staysWithin
  split
  · exact stdy_b _ _ _
  · exact Or.inl rfl
def o_X4_hasConverged (s : Nat → Int32) (f : Nat → Nat → Int32) (K : Nat) (h : Nat) (k : Int32) : Int32 := o_X1_staysWithin s f K h k (s 8)
set_option maxHeartbeats 4000000 in
set_option maxRecDepth 100000 in
theorem k_X4_hasConverged (l : Launch) (D : va_G) (cI cO : ClassId) (a : Nat → Nat) (R : va_W) (s : Nat → Int32) (f : Nat → Nat → Int32) (N : Nat) (K : Nat) (h : Nat) (k : Int32) (hK : s 19 = nI K) (hK2 : K < 1000000) (hh1 : 1 ≤ h) (hh5 : h ≤ 5) (hh : s 9 = nI h) (h48 : N ≤ 48) (hj : Int32.toNatClampNeg k < N ∧ k = nI (Int32.toNatClampNeg k)) : Mi l yX4_hasConverged cX4_hasConverged 2 (some .boolean) { frames := 4, cells := 0, slots := 0, locals := 88 } D (kT cI cO) (xW cI cO a s f R) [.ref (a 0), .int k] (xW cI cO a s f R) (o_X4_hasConverged s f K h k) := by
  intro sz
  refine ent (by decide +kernel) (Nat.le_of_ble_eq_true rfl) ?_
  intro p e st m below meth c ls S hr hlk hnm w hsz hl
  have hl : lv_has ls 2 [(0, .ref (a 0)), (1, .int k)] := hl
  refine lv_aload_n S.1 S.2.1 dX4_hasConverged_0 rfl (lv_at hl 0 rfl) ?_
  refine xr_3 S w lk_RX4_26 dX4_hasConverged_1 ?_
  refine lv_iload_n S.1 S.2.1 dX4_hasConverged_4 rfl (lv_at hl 1 rfl) ?_
  refine lv_aload_n S.1 S.2.1 dX4_hasConverged_5 rfl (lv_at hl 0 rfl) ?_
  refine xr_1 S w lk_RX4_10 dX4_hasConverged_6 ?_
  refine xg_9 S w lk_RX4_105 dX4_hasConverged_9 ?_
  refine x_eqi (x := s 9) (y := nI h) (hh) ?_
  refine lv_aload_n S.1 S.2.1 dX4_hasConverged_12 rfl (lv_at hl 0 rfl) ?_
  refine xr_1 S w lk_RX4_10 dX4_hasConverged_13 ?_
  refine xg_8 S w lk_RX4_102 dX4_hasConverged_16 ?_
  refine x_Vi (As := [.int k, .int (nI h), .int (s 8)]) (rest := []) S w (goodV lk_RX4_296 li_X1_staysWithin ls_X1_staysWithin ln_RX1 lc_X1_staysWithin) hV_X1_staysWithin (k_X1_staysWithin l D cI cO a R s f N K h k (s 8) hK hK2 hh1 hh5 h48 hj) rfl 3 1 rfl rfl xc_3 ⟨(Nat.le_of_ble_eq_true rfl), (Nat.le_of_ble_eq_true rfl)⟩ ⟨rfl, rfl⟩ hl.1 rfl (Nat.le_of_ble_eq_true rfl) ⟨Nat.zero_le _, Nat.zero_le _⟩ dX4_hasConverged_19 (fun H locs (w : Wd D (kT cI cO) (va_A _ _) _ _ (xW cI cO a s f R) H locs) => ?_)
  exact x_retz S w hr hlk dX4_hasConverged_22 (staysW_b _ _ _ _ _ _) (show o_X1_staysWithin s f K h k (s 8) = o_X4_hasConverged s f K h k from by simp only [o_X4_hasConverged]) (show xW cI cO a s f R = xW cI cO a s f R from rfl)
theorem rch0_lt {s : Nat → Int32} {f : Nat → Nat → Int32} {K : Nat} (hK : s 19 = nI K) (hK2 : K < 1000000) (h : ¬ o_X1_reaches s f 0 = 0) : 0 < K := rch_lt hK hK2 (A := 0) rfl (by decide) h
def o_X4_state (s : Nat → Int32) (f : Nat → Nat → Int32) (K : Nat) (h : Nat) (k : Int32) : Int32 := if (wIn k 0 ((s 0) - 1)) = 0 then (-2000000001) else if (o_X1_reaches s f 0) = 0 then 0 else if (o_X1_staysWithin s f K h k (s 8)) = 0 then if (o_X1_hasGrown s f K k) = 0 then 3 else 2 else 1
set_option maxHeartbeats 4000000 in
set_option maxRecDepth 100000 in
theorem k_X4_state (l : Launch) (D : va_G) (cI cO : ClassId) (a : Nat → Nat) (R : va_W) (s : Nat → Int32) (f : Nat → Nat → Int32) (N : Nat) (K : Nat) (h : Nat) (k : Int32) (hN : s 0 = nI N) (h4 : 4 ≤ N) (h48 : N ≤ 48) (hK : s 19 = nI K) (hK2 : K < 1000000) (hh1 : 1 ≤ h) (hh5 : h ≤ 5) (hh : s 9 = nI h) : Mi l yX4_state cX4_state 2 (some .int) { frames := 5, cells := 0, slots := 0, locals := 109 } D (kT cI cO) (xW cI cO a s f R) [.ref (a 0), .int k] (xW cI cO a s f R) (o_X4_state s f K h k) := by
  intro sz
  refine ent (by decide +kernel) (Nat.le_of_ble_eq_true rfl) ?_
  intro p e st m below meth c ls S hr hlk hnm w hsz hl
  have hl : lv_has ls 2 [(0, .ref (a 0)), (1, .int k)] := hl
  refine lv_aload_n S.1 S.2.1 dX4_state_0 rfl (lv_at hl 0 rfl) ?_
  refine lv_iload_n S.1 S.2.1 dX4_state_1 rfl (lv_at hl 1 rfl) ?_
  refine x_Vi (As := [.int k]) (rest := []) S w (goodV lk_RX4_69 li_X4_isSample ls_X4_isSample ln_RX4 lc_X4_isSample) hV_X4_isSample (k_X4_isSample l D cI cO a R s f k) rfl 0 4 rfl rfl xc_0 ⟨(Nat.le_of_ble_eq_true rfl), (Nat.le_of_ble_eq_true rfl)⟩ ⟨rfl, rfl⟩ hl.1 rfl (Nat.le_of_ble_eq_true rfl) ⟨Nat.zero_le _, Nat.zero_le _⟩ dX4_state_2 (fun H locs (w : Wd D (kT cI cO) (va_A _ _) _ _ (xW cI cO a s f R) H locs) => ?_)
  refine x_eqi (x := o_X4_isSample s f k) (y := wIn k 0 ((s 0) - 1)) rfl ?_
  refine lv_if_ne (tgt := 11) S.1 S.2.1 dX4_state_5 (by decide) (fun (c_1 : ¬ (wIn k 0 ((s 0) - 1)) = 0) => ?_) (fun (c_1 : (wIn k 0 ((s 0) - 1)) = 0) => ?_)
  · have hj := wIn_j hN h4 h48 c_1
    refine lv_aload_n S.1 S.2.1 dX4_state_11 rfl (lv_at hl 0 rfl) ?_
    refine xr_3 S w lk_RX4_26 dX4_state_12 ?_
    refine lv_iconst (v := 0) S.1 S.2.1 dX4_state_15 (by decide) ?_
    refine x_Vi (As := [.int 0]) (rest := []) S w (goodV lk_RX4_148 li_X1_reaches ls_X1_reaches ln_RX1 lc_X1_reaches) hV_X1_reaches (k_X1_reaches l D cI cO a R s f 0) rfl 3 1 rfl rfl xc_3 ⟨(Nat.le_of_ble_eq_true rfl), (Nat.le_of_ble_eq_true rfl)⟩ ⟨rfl, rfl⟩ hl.1 rfl (Nat.le_of_ble_eq_true rfl) ⟨Nat.zero_le _, Nat.zero_le _⟩ dX4_state_16 (fun H locs (w : Wd D (kT cI cO) (va_A _ _) _ _ (xW cI cO a s f R) H locs) => ?_)
    refine lv_if_ne (tgt := 24) S.1 S.2.1 dX4_state_19 (by decide) (fun (c_2 : ¬ (o_X1_reaches s f 0) = 0) => ?_) (fun (c_2 : (o_X1_reaches s f 0) = 0) => ?_)
    · have h0K := rch0_lt hK hK2 c_2
      refine lv_aload_n S.1 S.2.1 dX4_state_24 rfl (lv_at hl 0 rfl) ?_
      refine lv_iload_n S.1 S.2.1 dX4_state_25 rfl (lv_at hl 1 rfl) ?_
      refine x_Vi (As := [.int k]) (rest := []) S w (goodV lk_RX4_189 li_X4_hasConverged ls_X4_hasConverged ln_RX4 lc_X4_hasConverged) hV_X4_hasConverged (k_X4_hasConverged l D cI cO a R s f N K h k hK hK2 hh1 hh5 hh h48 hj) rfl 0 4 rfl rfl xc_0 ⟨(Nat.le_of_ble_eq_true rfl), (Nat.le_of_ble_eq_true rfl)⟩ ⟨rfl, rfl⟩ hl.1 rfl (Nat.le_of_ble_eq_true rfl) ⟨Nat.zero_le _, Nat.zero_le _⟩ dX4_state_26 (fun H locs (w : Wd D (kT cI cO) (va_A _ _) _ _ (xW cI cO a s f R) H locs) => ?_)
      refine x_eqi (x := o_X4_hasConverged s f K h k) (y := o_X1_staysWithin s f K h k (s 8)) rfl ?_
      refine lv_if_eq (tgt := 34) S.1 S.2.1 dX4_state_29 (by decide) (fun (c_3 : (o_X1_staysWithin s f K h k (s 8)) = 0) => ?_) (fun (c_3 : ¬ ((o_X1_staysWithin s f K h k (s 8)) = 0)) => ?_)
      · refine lv_aload_n S.1 S.2.1 dX4_state_34 rfl (lv_at hl 0 rfl) ?_
        refine xr_3 S w lk_RX4_26 dX4_state_35 ?_
        refine lv_iload_n S.1 S.2.1 dX4_state_38 rfl (lv_at hl 1 rfl) ?_
        refine x_Vi (As := [.int k]) (rest := []) S w (goodV lk_RX4_192 li_X1_hasGrown ls_X1_hasGrown ln_RX1 lc_X1_hasGrown) hV_X1_hasGrown (k_X1_hasGrown l D cI cO a R s f N K k hK hK2 h48 hj) rfl 3 1 rfl rfl xc_3 ⟨(Nat.le_of_ble_eq_true rfl), (Nat.le_of_ble_eq_true rfl)⟩ ⟨rfl, rfl⟩ hl.1 rfl (Nat.le_of_ble_eq_true rfl) ⟨Nat.zero_le _, Nat.zero_le _⟩ dX4_state_39 (fun H locs (w : Wd D (kT cI cO) (va_A _ _) _ _ (xW cI cO a s f R) H locs) => ?_)
        refine lv_if_eq (tgt := 49) S.1 S.2.1 dX4_state_42 (by decide) (fun (c_4 : (o_X1_hasGrown s f K k) = 0) => ?_) (fun (c_4 : ¬ ((o_X1_hasGrown s f K k) = 0)) => ?_)
        · refine lv_iconst (v := 3) S.1 S.2.1 dX4_state_49 (by decide) ?_
          exact x_reti S w hr hlk dX4_state_50 (show 3 = o_X4_state s f K h k from by simp only [o_X4_state, if_neg c_1, if_neg c_2, if_pos c_3, if_pos c_4]) (show xW cI cO a s f R = xW cI cO a s f R from rfl)
        · refine lv_iconst (v := 2) S.1 S.2.1 dX4_state_45 (by decide) ?_
          refine lv_goto (tgt := 50) S.1 S.2.1 dX4_state_46 (by decide) ?_
          exact x_reti S w hr hlk dX4_state_50 (show 2 = o_X4_state s f K h k from by simp only [o_X4_state, if_neg c_1, if_neg c_2, if_pos c_3, if_neg c_4]) (show xW cI cO a s f R = xW cI cO a s f R from rfl)
      · refine lv_iconst (v := 1) S.1 S.2.1 dX4_state_32 (by decide) ?_
        exact x_reti S w hr hlk dX4_state_33 (show 1 = o_X4_state s f K h k from by simp only [o_X4_state, if_neg c_1, if_neg c_2, if_neg c_3]) (show xW cI cO a s f R = xW cI cO a s f R from rfl)
    · refine lv_iconst (v := 0) S.1 S.2.1 dX4_state_22 (by decide) ?_
      exact x_reti S w hr hlk dX4_state_23 (show 0 = o_X4_state s f K h k from by simp only [o_X4_state, if_neg c_1, if_pos c_2]) (show xW cI cO a s f R = xW cI cO a s f R from rfl)
  · refine x_ldc S lk_RX4_64 dX4_state_8 ?_
    exact x_reti S w hr hlk dX4_state_10 (show (-2000000001) = o_X4_state s f K h k from by simp only [o_X4_state, if_pos c_1]) (show xW cI cO a s f R = xW cI cO a s f R from rfl)
def o_X4_convergedCount_4 (s : Nat → Int32) (f : Nat → Nat → Int32) (N : Nat) (K : Nat) (h : Nat) : Int32 := sumI (fun y => onI (o_X1_staysWithin s f K h (nI y) (s 8))) N
set_option maxHeartbeats 4000000 in
set_option maxRecDepth 100000 in
theorem j_X4_convergedCount_4 {p : Program} {e : Env} {st : State} {m : MethodId} {args : Array Value} {below : List Frame} {meth : Method} {c : Code} {ws0 : va_W} {sz : Nat} (l : Launch) (D : va_G) (cI cO : ClassId) (a : Nat → Nat) (R : va_W) (s : Nat → Int32) (f : Nat → Nat → Int32) (N : Nat) (K : Nat) (h : Nat) (hN : s 0 = nI N) (h4 : 4 ≤ N) (h48 : N ≤ 48) (hK : s 19 = nI K) (hK2 : K < 1000000) (hh1 : 1 ≤ h) (hh5 : h ≤ 5) (hh : s 9 = nI h) (S : CallFix p m c cX4_convergedCount 3 st args wsL_law RX4) (hr : meth.sig.returnType = (some .int)) (hlk : meth.locks = false) : ∀ (n : Nat) (i : Nat) (H : Heap) (locs : List Loc) (ls : Array Slot), N + 1 ≤ i + n → i ≤ N → Wd D (kT cI cO) (va_A ws0 sz) st.heap st (xW cI cO a s f R) H locs → lv_has ls 3 [(0, .ref (a 0)), (1, .int (sumI (fun y => onI (o_X1_staysWithin s f K h (nI y) (s 8))) i)), (2, .int (nI i))] → W p l e { frames := 5, cells := 0, slots := 0, locals := 109 } st m args below meth c H locs 0 0 (MQ below (mQi D (kT cI cO) ws0 sz (xW cI cO a s f R) (o_X4_convergedCount_4 s f N K h)) args st 0 0 (va_A ws0 sz)) (F0 m 4 ls []) := by
  intro n
  induction n with
  | zero => intro i H locs ls hfu hi w hl; exact absurd hfu (by omega)
  | succ n ih =>
    intro i H locs ls hfu hi w hl
    refine lv_iload_n S.1 S.2.1 dX4_convergedCount_4 rfl (lv_at hl 2 rfl) ?_
    refine lv_aload_n S.1 S.2.1 dX4_convergedCount_5 rfl (lv_at hl 0 rfl) ?_
    refine xr_1 S w lk_RX4_10 dX4_convergedCount_6 ?_
    refine xg_0 S w lk_RX4_65 dX4_convergedCount_9 ?_
    refine x_eqi (x := s 0) (y := nI N) (hN) ?_
    refine lv_icmp_ge (tgt := 32) S.1 S.2.1 dX4_convergedCount_12 (by decide) (fun (c_1 : (nI N) ≤ (nI i)) => ?_) (fun (c_1 : ¬ ((nI N) ≤ (nI i))) => ?_)
    · have he : i = N := by
        have := (nI_leI (a := N) (b := i) (by omega) (by omega)).mp c_1
        omega
      subst i
      refine lv_iload_n S.1 S.2.1 dX4_convergedCount_32 rfl (lv_at hl 1 rfl) ?_
      exact x_reti S w hr hlk dX4_convergedCount_33 (show sumI (fun y => onI (o_X1_staysWithin s f K h (nI y) (s 8))) N = o_X4_convergedCount_4 s f N K h from by simp only [o_X4_convergedCount_4]) (show xW cI cO a s f R = xW cI cO a s f R from rfl)
    · have hlt : i < N := Nat.lt_of_not_le (fun z => c_1 (nI_le z (by omega)))
      refine lv_aload_n S.1 S.2.1 dX4_convergedCount_15 rfl (lv_at hl 0 rfl) ?_
      refine lv_iload_n S.1 S.2.1 dX4_convergedCount_16 rfl (lv_at hl 2 rfl) ?_
      refine x_Vi (As := [.int (nI i)]) (rest := []) S w (goodV lk_RX4_189 li_X4_hasConverged ls_X4_hasConverged ln_RX4 lc_X4_hasConverged) hV_X4_hasConverged (k_X4_hasConverged l D cI cO a R s f N K h (nI i) hK hK2 hh1 hh5 hh h48 (⟨by rw [nI_clamp (by omega)]; omega, by rw [nI_clamp (by omega)]⟩)) rfl 0 4 rfl rfl xc_0 ⟨(Nat.le_of_ble_eq_true rfl), (Nat.le_of_ble_eq_true rfl)⟩ ⟨rfl, rfl⟩ hl.1 rfl (Nat.le_of_ble_eq_true rfl) ⟨Nat.zero_le _, Nat.zero_le _⟩ dX4_convergedCount_17 (fun H locs (w : Wd D (kT cI cO) (va_A _ _) _ _ (xW cI cO a s f R) H locs) => ?_)
      refine x_eqi (x := o_X4_hasConverged s f K h (nI i)) (y := o_X1_staysWithin s f K h (nI i) (s 8)) rfl ?_
      refine lv_if_eq (tgt := 26) S.1 S.2.1 dX4_convergedCount_20 (by decide) (fun (c_2 : (o_X1_staysWithin s f K h (nI i) (s 8)) = 0) => ?_) (fun (c_2 : ¬ ((o_X1_staysWithin s f K h (nI i) (s 8)) = 0)) => ?_)
      · have hs : sumI (fun y => onI (o_X1_staysWithin s f K h (nI y) (s 8))) i = sumI (fun y => onI (o_X1_staysWithin s f K h (nI y) (s 8))) (i + 1) := by
          show _ = sumI (fun y => onI (o_X1_staysWithin s f K h (nI y) (s 8))) i + onI (o_X1_staysWithin s f K h (nI i) (s 8))
          rw [c_2]; exact (Int32.add_zero _).symm
        refine lv_iinc (v := nI (i + 1)) (lv' := [(2, .int (nI (i + 1))), (0, .ref (a 0)), (1, .int (sumI (fun y => onI (o_X1_staysWithin s f K h (nI y) (s 8))) i))]) S.1 S.2.1 dX4_convergedCount_26 hl (k := 2) rfl (x_inc _) (by decide) rfl (fun ls hl => ?_)
        refine lv_goto (tgt := 4) S.1 S.2.1 dX4_convergedCount_29 (by decide) ?_
        exact ih (i + 1) _ _ _ (by omega) (by omega) w (lv_sub hl [1, 2, 0] (by rw [← hs]; rfl))
      · have hs : sumI (fun y => onI (o_X1_staysWithin s f K h (nI y) (s 8))) i + 1 = sumI (fun y => onI (o_X1_staysWithin s f K h (nI y) (s 8))) (i + 1) := by
          show _ = sumI (fun y => onI (o_X1_staysWithin s f K h (nI y) (s 8))) i + onI (o_X1_staysWithin s f K h (nI i) (s 8))
          rw [onI, if_neg c_2]
        refine lv_iinc (v := sumI (fun y => onI (o_X1_staysWithin s f K h (nI y) (s 8))) i + 1) (lv' := [(1, .int (sumI (fun y => onI (o_X1_staysWithin s f K h (nI y) (s 8))) i + 1)), (0, .ref (a 0)), (2, .int (nI i))]) S.1 S.2.1 dX4_convergedCount_23 hl (k := 1) rfl (rfl) (by decide) rfl (fun ls hl => ?_)
        refine lv_iinc (v := nI (i + 1)) (lv' := [(2, .int (nI (i + 1))), (1, .int (sumI (fun y => onI (o_X1_staysWithin s f K h (nI y) (s 8))) i + 1)), (0, .ref (a 0))]) S.1 S.2.1 dX4_convergedCount_26 hl (k := 2) rfl (x_inc _) (by decide) rfl (fun ls hl => ?_)
        refine lv_goto (tgt := 4) S.1 S.2.1 dX4_convergedCount_29 (by decide) ?_
        exact ih (i + 1) _ _ _ (by omega) (by omega) w (lv_sub hl [2, 1, 0] (by rw [← hs]; rfl))
def o_X4_convergedCount (s : Nat → Int32) (f : Nat → Nat → Int32) (N : Nat) (K : Nat) (h : Nat) : Int32 := o_X4_convergedCount_4 s f N K h
set_option maxHeartbeats 4000000 in
set_option maxRecDepth 100000 in
theorem k_X4_convergedCount (l : Launch) (D : va_G) (cI cO : ClassId) (a : Nat → Nat) (R : va_W) (s : Nat → Int32) (f : Nat → Nat → Int32) (N : Nat) (K : Nat) (h : Nat) (hN : s 0 = nI N) (h4 : 4 ≤ N) (h48 : N ≤ 48) (hK : s 19 = nI K) (hK2 : K < 1000000) (hh1 : 1 ≤ h) (hh5 : h ≤ 5) (hh : s 9 = nI h) : Mi l yX4_convergedCount cX4_convergedCount 3 (some .int) { frames := 5, cells := 0, slots := 0, locals := 109 } D (kT cI cO) (xW cI cO a s f R) [.ref (a 0)] (xW cI cO a s f R) (o_X4_convergedCount s f N K h) := by
  intro sz
  refine ent (by decide +kernel) (Nat.le_of_ble_eq_true rfl) ?_
  intro p e st m below meth c ls S hr hlk hnm w hsz hl
  have hl : lv_has ls 3 [(0, .ref (a 0))] := hl
  refine lv_iconst (v := 0) S.1 S.2.1 dX4_convergedCount_0 (by decide) ?_
  refine lv_istore_n (lv' := [(1, .int 0), (0, .ref (a 0))]) S.1 S.2.1 dX4_convergedCount_1 rfl hl (by decide) rfl (fun ls hl => ?_)
  refine lv_iconst (v := 0) S.1 S.2.1 dX4_convergedCount_2 (by decide) ?_
  refine lv_istore_n (lv' := [(2, .int 0), (1, .int 0), (0, .ref (a 0))]) S.1 S.2.1 dX4_convergedCount_3 rfl hl (by decide) rfl (fun ls hl => ?_)
  refine x_toi (show o_X4_convergedCount_4 s f N K h = o_X4_convergedCount s f N K h from by simp only [o_X4_convergedCount]) (show xW cI cO a s f R = xW cI cO a s f R from by simp only [o_X4_convergedCount]) ?_
  exact j_X4_convergedCount_4 l D cI cO a R s f N K h hN h4 h48 hK hK2 hh1 hh5 hh S hr hlk (N + 1) 0 _ _ _ (by omega) (by omega) w (lv_sub hl [2, 1, 0] rfl)
/-- the sample with the greatest error, of those up to n, the lowest of several -/
def wst (g : Nat → Int32) : Nat → Nat
  | 0 => 0
  | n + 1 => if iabs (g (wst g n)) < iabs (g (n + 1)) then n + 1 else wst g n
theorem wst_le (g : Nat → Int32) (n : Nat) : wst g n ≤ n := by
  induction n with
  | zero => exact Nat.le_refl _
  | succ n ih =>
    unfold wst
    split
    · exact Nat.le_refl _
    · omega
def o_X4_indexOfGreatest_4 (s : Nat → Int32) (f : Nat → Nat → Int32) (N : Nat) (g : Nat → Int32) : Int32 := nI (wst g (N - 1))
set_option maxHeartbeats 4000000 in
set_option maxRecDepth 100000 in
theorem j_X4_indexOfGreatest_4 {p : Program} {e : Env} {st : State} {m : MethodId} {args : Array Value} {below : List Frame} {meth : Method} {c : Code} {ws0 : va_W} {sz : Nat} (l : Launch) (D : va_G) (cI cO : ClassId) (a : Nat → Nat) (R : va_W) (s : Nat → Int32) (f : Nat → Nat → Int32) (N : Nat) (ea : Nat) (iq : Nat) (g : Nat → Int32) (h4 : 4 ≤ N) (h48 : N ≤ 48) (hq : (xW cI cO a s f R)[iq]? = some (ea, .inl (cI, 48, .inl g))) (S : CallFix p m c cX4_indexOfGreatest 4 st args wsL_law RX4) (hr : meth.sig.returnType = (some .int)) (hlk : meth.locks = false) : ∀ (n : Nat) (i : Nat) (H : Heap) (locs : List Loc) (ls : Array Slot), N ≤ i + n → i + 1 ≤ N → Wd D (kT cI cO) (va_A ws0 sz) st.heap st (xW cI cO a s f R) H locs → lv_has ls 4 [(0, .ref ea), (1, .int (nI N)), (2, .int (nI (wst g i))), (3, .int (nI (i + 1)))] → W p l e { frames := 1, cells := 0, slots := 0, locals := 14 } st m args below meth c H locs 0 0 (MQ below (mQi D (kT cI cO) ws0 sz (xW cI cO a s f R) (o_X4_indexOfGreatest_4 s f N g)) args st 0 0 (va_A ws0 sz)) (F0 m 4 ls []) := by
  intro n
  induction n with
  | zero => intro i H locs ls hfu hi w hl; exact absurd hfu (by omega)
  | succ n ih =>
    intro i H locs ls hfu hi w hl
    refine lv_iload_n S.1 S.2.1 dX4_indexOfGreatest_4 rfl (lv_at hl 3 rfl) ?_
    refine lv_iload_n S.1 S.2.1 dX4_indexOfGreatest_5 rfl (lv_at hl 1 rfl) ?_
    refine lv_icmp_ge (tgt := 32) S.1 S.2.1 dX4_indexOfGreatest_6 (by decide) (fun (c_1 : (nI N) ≤ (nI (i + 1))) => ?_) (fun (c_1 : ¬ ((nI N) ≤ (nI (i + 1)))) => ?_)
    · have he : i = N - 1 := by
        have := (nI_leI (a := N) (b := i + 1) (by omega) (by omega)).mp c_1
        omega
      subst i
      refine lv_iload_n S.1 S.2.1 dX4_indexOfGreatest_32 rfl (lv_at hl 2 rfl) ?_
      exact x_reti S w hr hlk dX4_indexOfGreatest_33 (show nI (wst g (N - 1)) = o_X4_indexOfGreatest_4 s f N g from by simp only [o_X4_indexOfGreatest_4]) (show xW cI cO a s f R = xW cI cO a s f R from rfl)
    · have hlt : i + 1 < N := Nat.lt_of_not_le (fun z => c_1 (nI_le z (by omega)))
      have hwl := wst_le g i
      refine lv_aload_n S.1 S.2.1 dX4_indexOfGreatest_9 rfl (lv_at hl 0 rfl) ?_
      refine lv_iload_n S.1 S.2.1 dX4_indexOfGreatest_10 rfl (lv_at hl 3 rfl) ?_
      refine x_iald S w iq 0 (g := g) (v := g (i + 1)) (i + 1) (by omega) (rfl) (Nat.le_of_ble_eq_true rfl) (hq) rfl (rfl) dX4_indexOfGreatest_11 ?_
      refine x_mabs S lk_RX4_269 hl.1 (Nat.le_of_ble_eq_true rfl) (Nat.le_of_ble_eq_true rfl) (Nat.zero_le _) (Nat.zero_le _) dX4_indexOfGreatest_12 ?_
      refine lv_aload_n S.1 S.2.1 dX4_indexOfGreatest_15 rfl (lv_at hl 0 rfl) ?_
      refine lv_iload_n S.1 S.2.1 dX4_indexOfGreatest_16 rfl (lv_at hl 2 rfl) ?_
      refine x_iald S w iq 0 (g := g) (v := g (wst g i)) (wst g i) (by omega) (rfl) (Nat.le_of_ble_eq_true rfl) (hq) rfl (rfl) dX4_indexOfGreatest_17 ?_
      refine x_mabs S lk_RX4_269 hl.1 (Nat.le_of_ble_eq_true rfl) (Nat.le_of_ble_eq_true rfl) (Nat.zero_le _) (Nat.zero_le _) dX4_indexOfGreatest_18 ?_
      refine lv_icmp_le (tgt := 26) S.1 S.2.1 dX4_indexOfGreatest_21 (by decide) (fun (c_2 : (iabs (g (i + 1))) ≤ (iabs (g (wst g i)))) => ?_) (fun (c_2 : ¬ ((iabs (g (i + 1))) ≤ (iabs (g (wst g i))))) => ?_)
      · have hs : wst g i = wst g (i + 1) := by
          rw [wst, if_neg (Int32.not_lt.mpr c_2)]
        refine lv_iinc (v := nI ((i + 1) + 1)) (lv' := [(3, .int (nI ((i + 1) + 1))), (0, .ref ea), (1, .int (nI N)), (2, .int (nI (wst g i)))]) S.1 S.2.1 dX4_indexOfGreatest_26 hl (k := 3) rfl (x_inc _) (by decide) rfl (fun ls hl => ?_)
        refine lv_goto (tgt := 4) S.1 S.2.1 dX4_indexOfGreatest_29 (by decide) ?_
        exact ih (i + 1) _ _ _ (by omega) (by omega) w (lv_sub hl [1, 2, 3, 0] (by rw [← hs]; rfl))
      · have hs : i + 1 = wst g (i + 1) := by
          rw [wst, if_pos (Int32.not_le.mp c_2)]
        refine lv_iload_n S.1 S.2.1 dX4_indexOfGreatest_24 rfl (lv_at hl 3 rfl) ?_
        refine lv_istore_n (lv' := [(2, .int (nI (i + 1))), (0, .ref ea), (1, .int (nI N)), (3, .int (nI (i + 1)))]) S.1 S.2.1 dX4_indexOfGreatest_25 rfl hl (by decide) rfl (fun ls hl => ?_)
        refine lv_iinc (v := nI ((i + 1) + 1)) (lv' := [(3, .int (nI ((i + 1) + 1))), (2, .int (nI (i + 1))), (0, .ref ea), (1, .int (nI N))]) S.1 S.2.1 dX4_indexOfGreatest_26 hl (k := 3) rfl (x_inc _) (by decide) rfl (fun ls hl => ?_)
        refine lv_goto (tgt := 4) S.1 S.2.1 dX4_indexOfGreatest_29 (by decide) ?_
        exact ih (i + 1) _ _ _ (by omega) (by omega) w (lv_sub hl [2, 3, 1, 0] (by rw [← hs]; rfl))
def o_X4_indexOfGreatest (s : Nat → Int32) (f : Nat → Nat → Int32) (N : Nat) (g : Nat → Int32) : Int32 := o_X4_indexOfGreatest_4 s f N g
set_option maxHeartbeats 4000000 in
set_option maxRecDepth 100000 in
theorem k_X4_indexOfGreatest (l : Launch) (D : va_G) (cI cO : ClassId) (a : Nat → Nat) (R : va_W) (s : Nat → Int32) (f : Nat → Nat → Int32) (N : Nat) (ea : Nat) (iq : Nat) (g : Nat → Int32) (h4 : 4 ≤ N) (h48 : N ≤ 48) (hq : (xW cI cO a s f R)[iq]? = some (ea, .inl (cI, 48, .inl g))) : Mi l yX4_indexOfGreatest cX4_indexOfGreatest 4 (some .int) { frames := 1, cells := 0, slots := 0, locals := 14 } D (kT cI cO) (xW cI cO a s f R) [.ref ea, .int (nI N)] (xW cI cO a s f R) (o_X4_indexOfGreatest s f N g) := by
  intro sz
  refine ent (by decide +kernel) (Nat.le_of_ble_eq_true rfl) ?_
  intro p e st m below meth c ls S hr hlk hnm w hsz hl
  have hl : lv_has ls 4 [(0, .ref ea), (1, .int (nI N))] := hl
  refine lv_iconst (v := 0) S.1 S.2.1 dX4_indexOfGreatest_0 (by decide) ?_
  refine lv_istore_n (lv' := [(2, .int 0), (0, .ref ea), (1, .int (nI N))]) S.1 S.2.1 dX4_indexOfGreatest_1 rfl hl (by decide) rfl (fun ls hl => ?_)
  refine lv_iconst (v := 1) S.1 S.2.1 dX4_indexOfGreatest_2 (by decide) ?_
  refine lv_istore_n (lv' := [(3, .int 1), (2, .int 0), (0, .ref ea), (1, .int (nI N))]) S.1 S.2.1 dX4_indexOfGreatest_3 rfl hl (by decide) rfl (fun ls hl => ?_)
  refine x_toi (show o_X4_indexOfGreatest_4 s f N g = o_X4_indexOfGreatest s f N g from by simp only [o_X4_indexOfGreatest]) (show xW cI cO a s f R = xW cI cO a s f R from by simp only [o_X4_indexOfGreatest]) ?_
  exact j_X4_indexOfGreatest_4 l D cI cO a R s f N ea iq g h4 h48 hq S hr hlk N 0 _ _ _ (by omega) (by omega) w (lv_sub hl [2, 3, 1, 0] rfl)
def o_X4_sumOfSquares_5 (s : Nat → Int32) (f : Nat → Nat → Int32) (N : Nat) (g : Nat → Int32) : Int64 := sumL (fun y => Int32.toInt64 (g y) * Int32.toInt64 (g y)) N
set_option maxHeartbeats 4000000 in
set_option maxRecDepth 100000 in
theorem j_X4_sumOfSquares_5 {p : Program} {e : Env} {st : State} {m : MethodId} {args : Array Value} {below : List Frame} {meth : Method} {c : Code} {ws0 : va_W} {sz : Nat} (l : Launch) (D : va_G) (cI cO : ClassId) (a : Nat → Nat) (R : va_W) (s : Nat → Int32) (f : Nat → Nat → Int32) (N : Nat) (ea : Nat) (iq : Nat) (g : Nat → Int32) (h4 : 4 ≤ N) (h48 : N ≤ 48) (hq : (xW cI cO a s f R)[iq]? = some (ea, .inl (cI, 48, .inl g))) (S : CallFix p m c cX4_sumOfSquares 5 st args wsL_law RX4) (hr : meth.sig.returnType = (some .long)) (hlk : meth.locks = false) : ∀ (n : Nat) (i : Nat) (H : Heap) (locs : List Loc) (ls : Array Slot), N + 1 ≤ i + n → i ≤ N → Wd D (kT cI cO) (va_A ws0 sz) st.heap st (xW cI cO a s f R) H locs → lv_has ls 5 [(0, .ref ea), (1, .int (nI N)), (2, .long (sumL (fun y => Int32.toInt64 (g y) * Int32.toInt64 (g y)) i)), (4, .int (nI i))] → W p l e { frames := 0, cells := 0, slots := 0, locals := 0 } st m args below meth c H locs 0 0 (MQ below (mQl D (kT cI cO) ws0 sz (xW cI cO a s f R) (o_X4_sumOfSquares_5 s f N g)) args st 0 0 (va_A ws0 sz)) (F0 m 5 ls []) := by
  intro n
  induction n with
  | zero => intro i H locs ls hfu hi w hl; exact absurd hfu (by omega)
  | succ n ih =>
    intro i H locs ls hfu hi w hl
    refine lv_iload S.1 S.2.1 dX4_sumOfSquares_5 (lv_at hl 3 rfl) ?_
    refine lv_iload_n S.1 S.2.1 dX4_sumOfSquares_7 rfl (lv_at hl 1 rfl) ?_
    refine lv_icmp_ge (tgt := 31) S.1 S.2.1 dX4_sumOfSquares_8 (by decide) (fun (c_1 : (nI N) ≤ (nI i)) => ?_) (fun (c_1 : ¬ ((nI N) ≤ (nI i))) => ?_)
    · have he : i = N := by
        have := (nI_leI (a := N) (b := i) (by omega) (by omega)).mp c_1
        omega
      subst i
      refine lv_lload_n S.1 S.2.1 dX4_sumOfSquares_31 rfl (lv_at hl 2 rfl) ?_
      exact x_retl S w hr hlk dX4_sumOfSquares_32 (show sumL (fun y => Int32.toInt64 (g y) * Int32.toInt64 (g y)) N = o_X4_sumOfSquares_5 s f N g from by simp only [o_X4_sumOfSquares_5]) (show xW cI cO a s f R = xW cI cO a s f R from rfl)
    · have hlt : i < N := Nat.lt_of_not_le (fun z => c_1 (nI_le z (by omega)))
      refine lv_lload_n S.1 S.2.1 dX4_sumOfSquares_11 rfl (lv_at hl 2 rfl) ?_
      refine lv_aload_n S.1 S.2.1 dX4_sumOfSquares_12 rfl (lv_at hl 0 rfl) ?_
      refine lv_iload S.1 S.2.1 dX4_sumOfSquares_13 (lv_at hl 3 rfl) ?_
      refine x_iald S w iq 0 (g := g) (v := g i) i (by omega) (rfl) (Nat.le_of_ble_eq_true rfl) (hq) rfl (rfl) dX4_sumOfSquares_15 ?_
      refine lv_i2l S.1 S.2.1 dX4_sumOfSquares_16 rfl ?_
      refine lv_aload_n S.1 S.2.1 dX4_sumOfSquares_17 rfl (lv_at hl 0 rfl) ?_
      refine lv_iload S.1 S.2.1 dX4_sumOfSquares_18 (lv_at hl 3 rfl) ?_
      refine x_iald S w iq 0 (g := g) (v := g i) i (by omega) (rfl) (Nat.le_of_ble_eq_true rfl) (hq) rfl (rfl) dX4_sumOfSquares_20 ?_
      refine lv_i2l S.1 S.2.1 dX4_sumOfSquares_21 rfl ?_
      refine lv_lmul S.1 S.2.1 dX4_sumOfSquares_22 ?_
      refine lv_ladd S.1 S.2.1 dX4_sumOfSquares_23 ?_
      refine lv_lstore_n (lv' := [(2, .long ((sumL (fun y => Int32.toInt64 (g y) * Int32.toInt64 (g y)) i) + ((Int32.toInt64 (g i)) * (Int32.toInt64 (g i))))), (0, .ref ea), (1, .int (nI N)), (4, .int (nI i))]) S.1 S.2.1 dX4_sumOfSquares_24 rfl hl (by decide) rfl (fun ls hl => ?_)
      refine lv_iinc (v := nI (i + 1)) (lv' := [(4, .int (nI (i + 1))), (2, .long ((sumL (fun y => Int32.toInt64 (g y) * Int32.toInt64 (g y)) i) + ((Int32.toInt64 (g i)) * (Int32.toInt64 (g i))))), (0, .ref ea), (1, .int (nI N))]) S.1 S.2.1 dX4_sumOfSquares_25 hl (k := 3) rfl (x_inc _) (by decide) rfl (fun ls hl => ?_)
      refine lv_goto (tgt := 5) S.1 S.2.1 dX4_sumOfSquares_28 (by decide) ?_
      exact ih (i + 1) _ _ _ (by omega) (by omega) w (lv_sub hl [2, 3, 1, 0] rfl)
def o_X4_sumOfSquares (s : Nat → Int32) (f : Nat → Nat → Int32) (N : Nat) (g : Nat → Int32) : Int64 := o_X4_sumOfSquares_5 s f N g
set_option maxHeartbeats 4000000 in
set_option maxRecDepth 100000 in
theorem k_X4_sumOfSquares (l : Launch) (D : va_G) (cI cO : ClassId) (a : Nat → Nat) (R : va_W) (s : Nat → Int32) (f : Nat → Nat → Int32) (N : Nat) (ea : Nat) (iq : Nat) (g : Nat → Int32) (h4 : 4 ≤ N) (h48 : N ≤ 48) (hq : (xW cI cO a s f R)[iq]? = some (ea, .inl (cI, 48, .inl g))) : Ml l yX4_sumOfSquares cX4_sumOfSquares 5 (some .long) { frames := 0, cells := 0, slots := 0, locals := 0 } D (kT cI cO) (xW cI cO a s f R) [.ref ea, .int (nI N)] (xW cI cO a s f R) (o_X4_sumOfSquares s f N g) := by
  intro sz
  refine ent (by decide +kernel) (Nat.le_of_ble_eq_true rfl) ?_
  intro p e st m below meth c ls S hr hlk hnm w hsz hl
  have hl : lv_has ls 5 [(0, .ref ea), (1, .int (nI N))] := hl
  refine lv_lconst (v := 0) S.1 S.2.1 dX4_sumOfSquares_0 (by decide) ?_
  refine lv_lstore_n (lv' := [(2, .long 0), (0, .ref ea), (1, .int (nI N))]) S.1 S.2.1 dX4_sumOfSquares_1 rfl hl (by decide) rfl (fun ls hl => ?_)
  refine lv_iconst (v := 0) S.1 S.2.1 dX4_sumOfSquares_2 (by decide) ?_
  refine lv_istore (lv' := [(4, .int 0), (2, .long 0), (0, .ref ea), (1, .int (nI N))]) S.1 S.2.1 dX4_sumOfSquares_3 hl (by decide) rfl (fun ls hl => ?_)
  refine x_tol (show o_X4_sumOfSquares_5 s f N g = o_X4_sumOfSquares s f N g from by simp only [o_X4_sumOfSquares]) (show xW cI cO a s f R = xW cI cO a s f R from by simp only [o_X4_sumOfSquares]) ?_
  exact j_X4_sumOfSquares_5 l D cI cO a R s f N ea iq g h4 h48 hq S hr hlk (N + 1) 0 _ _ _ (by omega) (by omega) w (lv_sub hl [2, 3, 1, 0] rfl)
def o_X4_worstSample (s : Nat → Int32) (f : Nat → Nat → Int32) (N : Nat) (g : Int32) : Int32 := if (wIn g 0 4) = 0 then (-2000000001) else if (o_X1_reaches s f g) = 0 then (-2000000004) else nI (wst (f (10 + slt (s 19) g)) (N - 1))
set_option maxHeartbeats 4000000 in
set_option maxRecDepth 100000 in
theorem k_X4_worstSample (l : Launch) (D : va_G) (cI cO : ClassId) (a : Nat → Nat) (R : va_W) (s : Nat → Int32) (f : Nat → Nat → Int32) (N : Nat) (K : Nat) (g : Int32) (hN : s 0 = nI N) (h4 : 4 ≤ N) (h48 : N ≤ 48) (hK : s 19 = nI K) (hK2 : K < 1000000) : Mi l yX4_worstSample cX4_worstSample 2 (some .int) { frames := 3, cells := 0, slots := 0, locals := 64 } D (kT cI cO) (xW cI cO a s f R) [.ref (a 0), .int g] (xW cI cO a s f R) (o_X4_worstSample s f N g) := by
  intro sz
  refine ent (by decide +kernel) (Nat.le_of_ble_eq_true rfl) ?_
  intro p e st m below meth c ls S hr hlk hnm w hsz hl
  have hl : lv_has ls 2 [(0, .ref (a 0)), (1, .int g)] := hl
  refine lv_iload_n S.1 S.2.1 dX4_worstSample_0 rfl (lv_at hl 1 rfl) ?_
  refine x_Si (As := [.int g]) (rest := []) S w (goodS lk_RX4_145 lt_X4_isAge ln_RX4 lc_X4_isAge) hd_X4_isAge (k_X4_isAge l _ _ (xW cI cO a s f R) g) rfl ⟨(Nat.le_of_ble_eq_true rfl), (Nat.le_of_ble_eq_true rfl)⟩ ⟨rfl, rfl⟩ hl.1 rfl (Nat.le_of_ble_eq_true rfl) ⟨Nat.zero_le _, Nat.zero_le _⟩ dX4_worstSample_1 (fun H locs (w : Wd D (kT cI cO) (va_A _ _) _ _ (xW cI cO a s f R) H locs) => ?_)
  refine x_eqi (x := o_X4_isAge g) (y := wIn g 0 4) rfl ?_
  refine lv_if_ne (tgt := 10) S.1 S.2.1 dX4_worstSample_4 (by decide) (fun (c_1 : ¬ (wIn g 0 4) = 0) => ?_) (fun (c_1 : (wIn g 0 4) = 0) => ?_)
  · have hg := wIn_ix (n := 4) (by decide) rfl c_1
    refine lv_aload_n S.1 S.2.1 dX4_worstSample_10 rfl (lv_at hl 0 rfl) ?_
    refine xr_3 S w lk_RX4_26 dX4_worstSample_11 ?_
    refine lv_iload_n S.1 S.2.1 dX4_worstSample_14 rfl (lv_at hl 1 rfl) ?_
    refine x_Vi (As := [.int g]) (rest := []) S w (goodV lk_RX4_148 li_X1_reaches ls_X1_reaches ln_RX1 lc_X1_reaches) hV_X1_reaches (k_X1_reaches l D cI cO a R s f g) rfl 3 1 rfl rfl xc_3 ⟨(Nat.le_of_ble_eq_true rfl), (Nat.le_of_ble_eq_true rfl)⟩ ⟨rfl, rfl⟩ hl.1 rfl (Nat.le_of_ble_eq_true rfl) ⟨Nat.zero_le _, Nat.zero_le _⟩ dX4_worstSample_15 (fun H locs (w : Wd D (kT cI cO) (va_A _ _) _ _ (xW cI cO a s f R) H locs) => ?_)
    refine lv_if_eq (tgt := 42) S.1 S.2.1 dX4_worstSample_18 (by decide) (fun (c_2 : (o_X1_reaches s f g) = 0) => ?_) (fun (c_2 : ¬ ((o_X1_reaches s f g) = 0)) => ?_)
    · refine x_ldc S lk_RX4_129 dX4_worstSample_42 ?_
      exact x_reti S w hr hlk dX4_worstSample_44 (show (-2000000004) = o_X4_worstSample s f N g from by simp only [o_X4_worstSample, if_neg c_1, if_pos c_2]) (show xW cI cO a s f R = xW cI cO a s f R from rfl)
    · have hlt := rch_lt hK hK2 hg.2 (by have := hg.1; omega) c_2
      refine lv_aload_n S.1 S.2.1 dX4_worstSample_21 rfl (lv_at hl 0 rfl) ?_
      refine xr_3 S w lk_RX4_26 dX4_worstSample_22 ?_
      refine lv_iload_n S.1 S.2.1 dX4_worstSample_25 rfl (lv_at hl 1 rfl) ?_
      refine x_Vr (As := [.int g]) (rest := []) S w (goodV lk_RX4_151 li_X1_errorsOf ls_X1_errorsOf ln_RX1 lc_X1_errorsOf) hV_X1_errorsOf (k_X1_errorsOf l D cI cO a R s f K (Int32.toNatClampNeg g) g hK hK2 hg.2 hlt) rfl 3 1 rfl rfl xc_3 ⟨(Nat.le_of_ble_eq_true rfl), (Nat.le_of_ble_eq_true rfl)⟩ ⟨rfl, rfl⟩ hl.1 rfl (Nat.le_of_ble_eq_true rfl) ⟨Nat.zero_le _, Nat.zero_le _⟩ dX4_worstSample_26 (fun H locs (w : Wd D (kT cI cO) (va_A _ _) _ _ (xW cI cO a s f R) H locs) => ?_)
      refine lv_aload_n S.1 S.2.1 dX4_worstSample_29 rfl (lv_at hl 0 rfl) ?_
      refine xr_1 S w lk_RX4_10 dX4_worstSample_30 ?_
      refine xg_0 S w lk_RX4_65 dX4_worstSample_33 ?_
      refine x_eqi (x := s 0) (y := nI N) (hN) ?_
      refine x_Si (As := [.ref (a (16 + (slt (s 19) g))), .int (nI N)]) (rest := []) S w (goodS lk_RX4_165 lt_X4_indexOfGreatest ln_RX4 lc_X4_indexOfGreatest) hd_X4_indexOfGreatest (k_X4_indexOfGreatest l D cI cO a R s f N (a (16 + slt (s 19) g)) (16 + slt (s 19) g) (f (10 + slt (s 19) g)) h4 h48 (x_row (slt_lt _ _))) rfl ⟨(Nat.le_of_ble_eq_true rfl), (Nat.le_of_ble_eq_true rfl)⟩ ⟨rfl, rfl⟩ hl.1 rfl (Nat.le_of_ble_eq_true rfl) ⟨Nat.zero_le _, Nat.zero_le _⟩ dX4_worstSample_36 (fun H locs (w : Wd D (kT cI cO) (va_A _ _) _ _ (xW cI cO a s f R) H locs) => ?_)
      refine x_eqi (x := o_X4_indexOfGreatest s f N (f (10 + slt (s 19) g))) (y := nI (wst (f (10 + slt (s 19) g)) (N - 1))) rfl ?_
      refine lv_goto (tgt := 44) S.1 S.2.1 dX4_worstSample_39 (by decide) ?_
      exact x_reti S w hr hlk dX4_worstSample_44 (show nI (wst (f (10 + slt (s 19) g)) (N - 1)) = o_X4_worstSample s f N g from by simp only [o_X4_worstSample, if_neg c_1, if_neg c_2]) (show xW cI cO a s f R = xW cI cO a s f R from rfl)
  · refine x_ldc S lk_RX4_64 dX4_worstSample_7 ?_
    exact x_reti S w hr hlk dX4_worstSample_9 (show (-2000000001) = o_X4_worstSample s f N g from by simp only [o_X4_worstSample, if_pos c_1]) (show xW cI cO a s f R = xW cI cO a s f R from rfl)
def o_X4_energy (s : Nat → Int32) (f : Nat → Nat → Int32) (N : Nat) (g : Int32) : Int64 := if (wIn g 0 4) = 0 then (-1) else if (o_X1_reaches s f g) = 0 then (-2) else sumL (fun y => Int32.toInt64 ((f (10 + slt (s 19) g)) y) * Int32.toInt64 ((f (10 + slt (s 19) g)) y)) N
set_option maxHeartbeats 4000000 in
set_option maxRecDepth 100000 in
theorem k_X4_energy (l : Launch) (D : va_G) (cI cO : ClassId) (a : Nat → Nat) (R : va_W) (s : Nat → Int32) (f : Nat → Nat → Int32) (N : Nat) (K : Nat) (g : Int32) (hN : s 0 = nI N) (h4 : 4 ≤ N) (h48 : N ≤ 48) (hK : s 19 = nI K) (hK2 : K < 1000000) : Ml l yX4_energy cX4_energy 2 (some .long) { frames := 3, cells := 0, slots := 0, locals := 64 } D (kT cI cO) (xW cI cO a s f R) [.ref (a 0), .int g] (xW cI cO a s f R) (o_X4_energy s f N g) := by
  intro sz
  refine ent (by decide +kernel) (Nat.le_of_ble_eq_true rfl) ?_
  intro p e st m below meth c ls S hr hlk hnm w hsz hl
  have hl : lv_has ls 2 [(0, .ref (a 0)), (1, .int g)] := hl
  refine lv_iload_n S.1 S.2.1 dX4_energy_0 rfl (lv_at hl 1 rfl) ?_
  refine x_Si (As := [.int g]) (rest := []) S w (goodS lk_RX4_145 lt_X4_isAge ln_RX4 lc_X4_isAge) hd_X4_isAge (k_X4_isAge l _ _ (xW cI cO a s f R) g) rfl ⟨(Nat.le_of_ble_eq_true rfl), (Nat.le_of_ble_eq_true rfl)⟩ ⟨rfl, rfl⟩ hl.1 rfl (Nat.le_of_ble_eq_true rfl) ⟨Nat.zero_le _, Nat.zero_le _⟩ dX4_energy_1 (fun H locs (w : Wd D (kT cI cO) (va_A _ _) _ _ (xW cI cO a s f R) H locs) => ?_)
  refine x_eqi (x := o_X4_isAge g) (y := wIn g 0 4) rfl ?_
  refine lv_if_ne (tgt := 11) S.1 S.2.1 dX4_energy_4 (by decide) (fun (c_1 : ¬ (wIn g 0 4) = 0) => ?_) (fun (c_1 : (wIn g 0 4) = 0) => ?_)
  · have hg := wIn_ix (n := 4) (by decide) rfl c_1
    refine lv_aload_n S.1 S.2.1 dX4_energy_11 rfl (lv_at hl 0 rfl) ?_
    refine xr_3 S w lk_RX4_26 dX4_energy_12 ?_
    refine lv_iload_n S.1 S.2.1 dX4_energy_15 rfl (lv_at hl 1 rfl) ?_
    refine x_Vi (As := [.int g]) (rest := []) S w (goodV lk_RX4_148 li_X1_reaches ls_X1_reaches ln_RX1 lc_X1_reaches) hV_X1_reaches (k_X1_reaches l D cI cO a R s f g) rfl 3 1 rfl rfl xc_3 ⟨(Nat.le_of_ble_eq_true rfl), (Nat.le_of_ble_eq_true rfl)⟩ ⟨rfl, rfl⟩ hl.1 rfl (Nat.le_of_ble_eq_true rfl) ⟨Nat.zero_le _, Nat.zero_le _⟩ dX4_energy_16 (fun H locs (w : Wd D (kT cI cO) (va_A _ _) _ _ (xW cI cO a s f R) H locs) => ?_)
    refine lv_if_eq (tgt := 43) S.1 S.2.1 dX4_energy_19 (by decide) (fun (c_2 : (o_X1_reaches s f g) = 0) => ?_) (fun (c_2 : ¬ ((o_X1_reaches s f g) = 0)) => ?_)
    · refine x_ldc2 S lk_RX4_175 dX4_energy_43 ?_
      exact x_retl S w hr hlk dX4_energy_46 (show (-2) = o_X4_energy s f N g from by simp only [o_X4_energy, if_neg c_1, if_pos c_2]) (show xW cI cO a s f R = xW cI cO a s f R from rfl)
    · have hlt := rch_lt hK hK2 hg.2 (by have := hg.1; omega) c_2
      refine lv_aload_n S.1 S.2.1 dX4_energy_22 rfl (lv_at hl 0 rfl) ?_
      refine xr_3 S w lk_RX4_26 dX4_energy_23 ?_
      refine lv_iload_n S.1 S.2.1 dX4_energy_26 rfl (lv_at hl 1 rfl) ?_
      refine x_Vr (As := [.int g]) (rest := []) S w (goodV lk_RX4_151 li_X1_errorsOf ls_X1_errorsOf ln_RX1 lc_X1_errorsOf) hV_X1_errorsOf (k_X1_errorsOf l D cI cO a R s f K (Int32.toNatClampNeg g) g hK hK2 hg.2 hlt) rfl 3 1 rfl rfl xc_3 ⟨(Nat.le_of_ble_eq_true rfl), (Nat.le_of_ble_eq_true rfl)⟩ ⟨rfl, rfl⟩ hl.1 rfl (Nat.le_of_ble_eq_true rfl) ⟨Nat.zero_le _, Nat.zero_le _⟩ dX4_energy_27 (fun H locs (w : Wd D (kT cI cO) (va_A _ _) _ _ (xW cI cO a s f R) H locs) => ?_)
      refine lv_aload_n S.1 S.2.1 dX4_energy_30 rfl (lv_at hl 0 rfl) ?_
      refine xr_1 S w lk_RX4_10 dX4_energy_31 ?_
      refine xg_0 S w lk_RX4_65 dX4_energy_34 ?_
      refine x_eqi (x := s 0) (y := nI N) (hN) ?_
      refine x_Sl (As := [.ref (a (16 + (slt (s 19) g))), .int (nI N)]) (rest := []) S w (goodS lk_RX4_171 lt_X4_sumOfSquares ln_RX4 lc_X4_sumOfSquares) hd_X4_sumOfSquares (k_X4_sumOfSquares l D cI cO a R s f N (a (16 + slt (s 19) g)) (16 + slt (s 19) g) (f (10 + slt (s 19) g)) h4 h48 (x_row (slt_lt _ _))) rfl ⟨(Nat.le_of_ble_eq_true rfl), (Nat.le_of_ble_eq_true rfl)⟩ ⟨rfl, rfl⟩ hl.1 rfl (Nat.le_of_ble_eq_true rfl) ⟨Nat.zero_le _, Nat.zero_le _⟩ dX4_energy_37 (fun H locs (w : Wd D (kT cI cO) (va_A _ _) _ _ (xW cI cO a s f R) H locs) => ?_)
      refine x_eql (x := o_X4_sumOfSquares s f N (f (10 + slt (s 19) g))) (y := sumL (fun y => Int32.toInt64 ((f (10 + slt (s 19) g)) y) * Int32.toInt64 ((f (10 + slt (s 19) g)) y)) N) rfl ?_
      refine lv_goto (tgt := 46) S.1 S.2.1 dX4_energy_40 (by decide) ?_
      exact x_retl S w hr hlk dX4_energy_46 (show sumL (fun y => Int32.toInt64 ((f (10 + slt (s 19) g)) y) * Int32.toInt64 ((f (10 + slt (s 19) g)) y)) N = o_X4_energy s f N g from by simp only [o_X4_energy, if_neg c_1, if_neg c_2]) (show xW cI cO a s f R = xW cI cO a s f R from rfl)
  · refine x_ldc2 S lk_RX4_169 dX4_energy_7 ?_
    exact x_retl S w hr hlk dX4_energy_10 (show (-1) = o_X4_energy s f N g from by simp only [o_X4_energy, if_pos c_1]) (show xW cI cO a s f R = xW cI cO a s f R from rfl)
def o_X4_misfit_5 (s : Nat → Int32) (f : Nat → Nat → Int32) (N : Nat) (v : Int32) : Int64 := sumL (fun y => Int32.toInt64 (iabs (f 3 (rix N (nI y + v)) - f 4 y))) N
set_option maxHeartbeats 4000000 in
set_option maxRecDepth 100000 in
theorem j_X4_misfit_5 {p : Program} {e : Env} {st : State} {m : MethodId} {args : Array Value} {below : List Frame} {meth : Method} {c : Code} {ws0 : va_W} {sz : Nat} (l : Launch) (D : va_G) (cI cO : ClassId) (a : Nat → Nat) (R : va_W) (s : Nat → Int32) (f : Nat → Nat → Int32) (N : Nat) (v : Int32) (hN : s 0 = nI N) (h4 : 4 ≤ N) (h48 : N ≤ 48) (S : CallFix p m c cX4_misfit 5 st args wsL_law RX4) (hr : meth.sig.returnType = (some .long)) (hlk : meth.locks = false) : ∀ (n : Nat) (i : Nat) (H : Heap) (locs : List Loc) (ls : Array Slot), N + 1 ≤ i + n → i ≤ N → Wd D (kT cI cO) (va_A ws0 sz) st.heap st (xW cI cO a s f R) H locs → lv_has ls 5 [(0, .ref (a 0)), (1, .int v), (2, .long (sumL (fun y => Int32.toInt64 (iabs (f 3 (rix N (nI y + v)) - f 4 y))) i)), (4, .int (nI i))] → W p l e { frames := 2, cells := 0, slots := 0, locals := 36 } st m args below meth c H locs 0 0 (MQ below (mQl D (kT cI cO) ws0 sz (xW cI cO a s f R) (o_X4_misfit_5 s f N v)) args st 0 0 (va_A ws0 sz)) (F0 m 5 ls []) := by
  intro n
  induction n with
  | zero => intro i H locs ls hfu hi w hl; exact absurd hfu (by omega)
  | succ n ih =>
    intro i H locs ls hfu hi w hl
    refine lv_iload S.1 S.2.1 dX4_misfit_5 (lv_at hl 3 rfl) ?_
    refine lv_aload_n S.1 S.2.1 dX4_misfit_7 rfl (lv_at hl 0 rfl) ?_
    refine xr_1 S w lk_RX4_10 dX4_misfit_8 ?_
    refine xg_0 S w lk_RX4_65 dX4_misfit_11 ?_
    refine x_eqi (x := s 0) (y := nI N) (hN) ?_
    refine lv_icmp_ge (tgt := 46) S.1 S.2.1 dX4_misfit_14 (by decide) (fun (c_1 : (nI N) ≤ (nI i)) => ?_) (fun (c_1 : ¬ ((nI N) ≤ (nI i))) => ?_)
    · have he : i = N := by
        have := (nI_leI (a := N) (b := i) (by omega) (by omega)).mp c_1
        omega
      subst i
      refine lv_lload_n S.1 S.2.1 dX4_misfit_46 rfl (lv_at hl 2 rfl) ?_
      exact x_retl S w hr hlk dX4_misfit_47 (show sumL (fun y => Int32.toInt64 (iabs (f 3 (rix N (nI y + v)) - f 4 y))) N = o_X4_misfit_5 s f N v from by simp only [o_X4_misfit_5]) (show xW cI cO a s f R = xW cI cO a s f R from rfl)
    · have hlt : i < N := Nat.lt_of_not_le (fun z => c_1 (nI_le z (by omega)))
      refine lv_lload_n S.1 S.2.1 dX4_misfit_17 rfl (lv_at hl 2 rfl) ?_
      refine lv_aload_n S.1 S.2.1 dX4_misfit_18 rfl (lv_at hl 0 rfl) ?_
      refine lv_iload S.1 S.2.1 dX4_misfit_19 (lv_at hl 3 rfl) ?_
      refine lv_iload_n S.1 S.2.1 dX4_misfit_21 rfl (lv_at hl 1 rfl) ?_
      refine lv_iadd S.1 S.2.1 dX4_misfit_22 ?_
      refine x_Vi (As := [.int ((nI i) + v)]) (rest := [.long (sumL (fun y => Int32.toInt64 (iabs (f 3 (rix N (nI y + v)) - f 4 y))) i)]) S w (goodV lk_RX4_248 li_X4_rawAt ls_X4_rawAt ln_RX4 lc_X4_rawAt) hV_X4_rawAt (k_X4_rawAt l D cI cO a R s f N ((nI i) + v) hN h4 h48) rfl 0 4 rfl rfl xc_0 ⟨(Nat.le_of_ble_eq_true rfl), (Nat.le_of_ble_eq_true rfl)⟩ ⟨rfl, rfl⟩ hl.1 rfl (Nat.le_of_ble_eq_true rfl) ⟨Nat.zero_le _, Nat.zero_le _⟩ dX4_misfit_23 (fun H locs (w : Wd D (kT cI cO) (va_A _ _) _ _ (xW cI cO a s f R) H locs) => ?_)
      refine x_eqi (x := o_X4_rawAt s f N ((nI i) + v)) (y := (f 3) (rix N ((nI i) + v))) rfl ?_
      refine lv_aload_n S.1 S.2.1 dX4_misfit_26 rfl (lv_at hl 0 rfl) ?_
      refine xr_9 S w lk_RX4_50 dX4_misfit_27 ?_
      refine lv_iload S.1 S.2.1 dX4_misfit_30 (lv_at hl 3 rfl) ?_
      refine x_iald S w 9 0 (g := f 4) (v := (f 4) i) i (by omega) (rfl) (Nat.le_of_ble_eq_true rfl) (xc_9) rfl (rfl) dX4_misfit_32 ?_
      refine lv_isub S.1 S.2.1 dX4_misfit_33 ?_
      refine x_mabs S lk_RX4_269 hl.1 (Nat.le_of_ble_eq_true rfl) (Nat.le_of_ble_eq_true rfl) (Nat.zero_le _) (Nat.zero_le _) dX4_misfit_34 ?_
      refine lv_i2l S.1 S.2.1 dX4_misfit_37 rfl ?_
      refine lv_ladd S.1 S.2.1 dX4_misfit_38 ?_
      refine lv_lstore_n (lv' := [(2, .long ((sumL (fun y => Int32.toInt64 (iabs (f 3 (rix N (nI y + v)) - f 4 y))) i) + (Int32.toInt64 (iabs (((f 3) (rix N ((nI i) + v))) - ((f 4) i)))))), (0, .ref (a 0)), (1, .int v), (4, .int (nI i))]) S.1 S.2.1 dX4_misfit_39 rfl hl (by decide) rfl (fun ls hl => ?_)
      refine lv_iinc (v := nI (i + 1)) (lv' := [(4, .int (nI (i + 1))), (2, .long ((sumL (fun y => Int32.toInt64 (iabs (f 3 (rix N (nI y + v)) - f 4 y))) i) + (Int32.toInt64 (iabs (((f 3) (rix N ((nI i) + v))) - ((f 4) i)))))), (0, .ref (a 0)), (1, .int v)]) S.1 S.2.1 dX4_misfit_40 hl (k := 3) rfl (x_inc _) (by decide) rfl (fun ls hl => ?_)
      refine lv_goto (tgt := 5) S.1 S.2.1 dX4_misfit_43 (by decide) ?_
      exact ih (i + 1) _ _ _ (by omega) (by omega) w (lv_sub hl [2, 3, 1, 0] rfl)
def o_X4_misfit (s : Nat → Int32) (f : Nat → Nat → Int32) (N : Nat) (v : Int32) : Int64 := o_X4_misfit_5 s f N v
set_option maxHeartbeats 4000000 in
set_option maxRecDepth 100000 in
theorem k_X4_misfit (l : Launch) (D : va_G) (cI cO : ClassId) (a : Nat → Nat) (R : va_W) (s : Nat → Int32) (f : Nat → Nat → Int32) (N : Nat) (v : Int32) (hN : s 0 = nI N) (h4 : 4 ≤ N) (h48 : N ≤ 48) : Ml l yX4_misfit cX4_misfit 5 (some .long) { frames := 2, cells := 0, slots := 0, locals := 36 } D (kT cI cO) (xW cI cO a s f R) [.ref (a 0), .int v] (xW cI cO a s f R) (o_X4_misfit s f N v) := by
  intro sz
  refine ent (by decide +kernel) (Nat.le_of_ble_eq_true rfl) ?_
  intro p e st m below meth c ls S hr hlk hnm w hsz hl
  have hl : lv_has ls 5 [(0, .ref (a 0)), (1, .int v)] := hl
  refine lv_lconst (v := 0) S.1 S.2.1 dX4_misfit_0 (by decide) ?_
  refine lv_lstore_n (lv' := [(2, .long 0), (0, .ref (a 0)), (1, .int v)]) S.1 S.2.1 dX4_misfit_1 rfl hl (by decide) rfl (fun ls hl => ?_)
  refine lv_iconst (v := 0) S.1 S.2.1 dX4_misfit_2 (by decide) ?_
  refine lv_istore (lv' := [(4, .int 0), (2, .long 0), (0, .ref (a 0)), (1, .int v)]) S.1 S.2.1 dX4_misfit_3 hl (by decide) rfl (fun ls hl => ?_)
  refine x_tol (show o_X4_misfit_5 s f N v = o_X4_misfit s f N v from by simp only [o_X4_misfit]) (show xW cI cO a s f R = xW cI cO a s f R from by simp only [o_X4_misfit]) ?_
  exact j_X4_misfit_5 l D cI cO a R s f N v hN h4 h48 S hr hlk (N + 1) 0 _ _ _ (by omega) (by omega) w (lv_sub hl [2, 3, 1, 0] rfl)
/-- how far the outputs, shifted by v, are from the aligned ones before -/
def misf (f : Nat → Nat → Int32) (N : Nat) (v : Int32) : Int64 := sumL (fun y => Int32.toInt64 (iabs (f 3 (rix N (nI y + v)) - f 4 y))) N
theorem misf_eq (s : Nat → Int32) (f : Nat → Nat → Int32) (N : Nat) (v : Int32) : o_X4_misfit s f N v = misf f N v := rfl
theorem bf_re {i : Nat} (h : i < 5) : nI (2 * i + 2) - nI (2 * i + 2) / 2 * 2 = 0 := by
  have h5 : i = 0 ∨ i = 1 ∨ i = 2 ∨ i = 3 ∨ i = 4 := by omega
  rcases h5 with rfl | rfl | rfl | rfl | rfl <;> decide +kernel
theorem bf_ro {i : Nat} (h : i < 5) : nI (2 * i + 3) - nI (2 * i + 3) / 2 * 2 = 1 := by
  have h5 : i = 0 ∨ i = 1 ∨ i = 2 ∨ i = 3 ∨ i = 4 := by omega
  rcases h5 with rfl | rfl | rfl | rfl | rfl <;> decide +kernel
theorem bf_dn {i : Nat} (h : i < 5) : (-nI (2 * i + 2)) / 2 = -nI (i + 1) := by
  have h5 : i = 0 ∨ i = 1 ∨ i = 2 ∨ i = 3 ∨ i = 4 := by omega
  rcases h5 with rfl | rfl | rfl | rfl | rfl <;> decide +kernel
theorem bf_dp {i : Nat} (h : i < 5) : nI (2 * i + 3) / 2 = nI (i + 1) := by
  have h5 : i = 0 ∨ i = 1 ∨ i = 2 ∨ i = 3 ∨ i = 4 := by omega
  rcases h5 with rfl | rfl | rfl | rfl | rfl <;> decide +kernel
def o_X4_bestFittingShift_11 (s : Nat → Int32) (f : Nat → Nat → Int32) (N : Nat) (G : Nat) : Int32 := bst (misf f N) G
set_option maxHeartbeats 4000000 in
set_option maxRecDepth 100000 in
theorem j_X4_bestFittingShift_11 {p : Program} {e : Env} {st : State} {m : MethodId} {args : Array Value} {below : List Frame} {meth : Method} {c : Code} {ws0 : va_W} {sz : Nat} (l : Launch) (D : va_G) (cI cO : ClassId) (a : Nat → Nat) (R : va_W) (s : Nat → Int32) (f : Nat → Nat → Int32) (N : Nat) (G : Nat) (hN : s 0 = nI N) (h4 : 4 ≤ N) (h48 : N ≤ 48) (hG : s 7 = nI G) (hG5 : G ≤ 5) (S : CallFix p m c cX4_bestFittingShift 8 st args wsL_law RX4) (hr : meth.sig.returnType = (some .int)) (hlk : meth.locks = false) : ∀ (n : Nat) (i : Nat) (H : Heap) (locs : List Loc) (ls : Array Slot), G + 1 ≤ i + n → i ≤ G → Wd D (kT cI cO) (va_A ws0 sz) st.heap st (xW cI cO a s f R) H locs → lv_has ls 8 [(0, .ref (a 0)), (1, .int (bst (misf f N) i)), (2, .long (misf f N (bst (misf f N) i))), (4, .int (nI (2 * i + 2)))] → W p l e { frames := 3, cells := 0, slots := 0, locals := 60 } st m args below meth c H locs 0 0 (MQ below (mQi D (kT cI cO) ws0 sz (xW cI cO a s f R) (o_X4_bestFittingShift_11 s f N G)) args st 0 0 (va_A ws0 sz)) (F0 m 11 ls []) := by
  intro n
  induction n with
  | zero => intro i H locs ls hfu hi w hl; exact absurd hfu (by omega)
  | succ n ih =>
    intro i H locs ls hfu hi w hl
    refine lv_iload S.1 S.2.1 dX4_bestFittingShift_11 (lv_at hl 3 rfl) ?_
    refine lv_iconst (v := 2) S.1 S.2.1 dX4_bestFittingShift_13 (by decide) ?_
    refine lv_aload_n S.1 S.2.1 dX4_bestFittingShift_14 rfl (lv_at hl 0 rfl) ?_
    refine xr_1 S w lk_RX4_10 dX4_bestFittingShift_15 ?_
    refine xg_7 S w lk_RX4_99 dX4_bestFittingShift_18 ?_
    refine x_eqi (x := s 7) (y := nI G) (hG) ?_
    refine lv_imul S.1 S.2.1 dX4_bestFittingShift_21 ?_
    refine x_eqi (x := 2 * (nI G)) (y := nI (2 * G)) (pk_mul 2 G) ?_
    refine lv_iconst (v := 1) S.1 S.2.1 dX4_bestFittingShift_22 (by decide) ?_
    refine lv_iadd S.1 S.2.1 dX4_bestFittingShift_23 ?_
    refine x_eqi (x := (nI (2 * G)) + 1) (y := nI (2 * G + 1)) (nI_1 _) ?_
    refine lv_icmp_gt (tgt := 75) S.1 S.2.1 dX4_bestFittingShift_24 (by decide) (fun (c_1 : (nI (2 * G + 1)) < (nI (2 * i + 2))) => ?_) (fun (c_1 : ¬ ((nI (2 * G + 1)) < (nI (2 * i + 2)))) => ?_)
    · have he : i = G := by
        have := (nI_ltI (a := 2 * G + 1) (b := 2 * i + 2) (by omega) (by omega)).mp c_1
        omega
      subst i
      refine lv_iload_n S.1 S.2.1 dX4_bestFittingShift_75 rfl (lv_at hl 1 rfl) ?_
      exact x_reti S w hr hlk dX4_bestFittingShift_76 (show bst (misf f N) G = o_X4_bestFittingShift_11 s f N G from by simp only [o_X4_bestFittingShift_11]) (show xW cI cO a s f R = xW cI cO a s f R from rfl)
    · have hlt : i < G := Nat.lt_of_not_le (fun z => c_1 (nI_lt (by omega) (by omega)))
      refine lv_iload S.1 S.2.1 dX4_bestFittingShift_27 (lv_at hl 3 rfl) ?_
      refine lv_iconst (v := 2) S.1 S.2.1 dX4_bestFittingShift_29 (by decide) ?_
      refine lv_irem S.1 S.2.1 dX4_bestFittingShift_30 (by decide) ?_
      refine x_eqi (x := (nI (2 * i + 2)) - (nI (2 * i + 2)) / 2 * 2) (y := 0) (bf_re (by omega)) ?_
      refine lv_if_ne (tgt := 42) S.1 S.2.1 dX4_bestFittingShift_31 (by decide) (fun z => absurd z (fun z9 => z9 rfl : ¬ (¬ (0 : Int32) = 0))) (fun _ => ?_)
      refine lv_iload S.1 S.2.1 dX4_bestFittingShift_34 (lv_at hl 3 rfl) ?_
      refine lv_ineg S.1 S.2.1 dX4_bestFittingShift_36 ?_
      refine lv_iconst (v := 2) S.1 S.2.1 dX4_bestFittingShift_37 (by decide) ?_
      refine lv_idiv S.1 S.2.1 dX4_bestFittingShift_38 (by decide) ?_
      refine x_eqi (x := (-(nI (2 * i + 2))) / 2) (y := -(nI (i + 1))) (bf_dn (by omega)) ?_
      refine lv_goto (tgt := 46) S.1 S.2.1 dX4_bestFittingShift_39 (by decide) ?_
      refine lv_istore (lv' := [(5, .int (-(nI (i + 1)))), (0, .ref (a 0)), (1, .int (bst (misf f N) i)), (2, .long (misf f N (bst (misf f N) i))), (4, .int (nI (2 * i + 2)))]) S.1 S.2.1 dX4_bestFittingShift_46 hl (by decide) rfl (fun ls hl => ?_)
      refine lv_aload_n S.1 S.2.1 dX4_bestFittingShift_48 rfl (lv_at hl 1 rfl) ?_
      refine lv_iload S.1 S.2.1 dX4_bestFittingShift_49 (lv_at hl 0 rfl) ?_
      refine x_Vl (As := [.int (-(nI (i + 1)))]) (rest := []) S w (goodV lk_RX4_265 li_X4_misfit ls_X4_misfit ln_RX4 lc_X4_misfit) hV_X4_misfit (k_X4_misfit l D cI cO a R s f N (-(nI (i + 1))) hN h4 h48) rfl 0 4 rfl rfl xc_0 ⟨(Nat.le_of_ble_eq_true rfl), (Nat.le_of_ble_eq_true rfl)⟩ ⟨rfl, rfl⟩ hl.1 rfl (Nat.le_of_ble_eq_true rfl) ⟨Nat.zero_le _, Nat.zero_le _⟩ dX4_bestFittingShift_51 (fun H locs (w : Wd D (kT cI cO) (va_A _ _) _ _ (xW cI cO a s f R) H locs) => ?_)
      refine x_eql (x := o_X4_misfit s f N (-(nI (i + 1)))) (y := sumL (fun y => Int32.toInt64 (iabs (f 3 (rix N (nI y + (-(nI (i + 1))))) - f 4 y))) N) rfl ?_
      refine x_eql (x := sumL (fun y => Int32.toInt64 (iabs (f 3 (rix N (nI y + (-(nI (i + 1))))) - f 4 y))) N) (y := misf f N (-(nI (i + 1)))) (rfl) ?_
      refine lv_lstore (lv' := [(6, .long (misf f N (-(nI (i + 1))))), (5, .int (-(nI (i + 1)))), (0, .ref (a 0)), (1, .int (bst (misf f N) i)), (2, .long (misf f N (bst (misf f N) i))), (4, .int (nI (2 * i + 2)))]) S.1 S.2.1 dX4_bestFittingShift_54 hl (by decide) rfl (fun ls hl => ?_)
      refine lv_lload S.1 S.2.1 dX4_bestFittingShift_56 (lv_at hl 0 rfl) ?_
      refine lv_lload_n S.1 S.2.1 dX4_bestFittingShift_58 rfl (lv_at hl 4 rfl) ?_
      refine x_lif_ge (tgt := 69) S.1 S.2.1 dX4_bestFittingShift_59 dX4_bestFittingShift_60 (by decide) (fun (c_3 : (misf f N (bst (misf f N) i)) ≤ (misf f N (-(nI (i + 1))))) => ?_) (fun (c_3 : ¬ ((misf f N (bst (misf f N) i)) ≤ (misf f N (-(nI (i + 1)))))) => ?_)
      · refine lv_iinc (v := nI (2 * i + 3)) (lv' := [(4, .int (nI (2 * i + 3))), (6, .long (misf f N (-(nI (i + 1))))), (5, .int (-(nI (i + 1)))), (0, .ref (a 0)), (1, .int (bst (misf f N) i)), (2, .long (misf f N (bst (misf f N) i)))]) S.1 S.2.1 dX4_bestFittingShift_69 hl (k := 5) rfl (x_inc _) (by decide) rfl (fun ls hl => ?_)
        refine lv_goto (tgt := 11) S.1 S.2.1 dX4_bestFittingShift_72 (by decide) ?_
        refine lv_iload S.1 S.2.1 dX4_bestFittingShift_11 (lv_at hl 0 rfl) ?_
        refine lv_iconst (v := 2) S.1 S.2.1 dX4_bestFittingShift_13 (by decide) ?_
        refine lv_aload_n S.1 S.2.1 dX4_bestFittingShift_14 rfl (lv_at hl 3 rfl) ?_
        refine xr_1 S w lk_RX4_10 dX4_bestFittingShift_15 ?_
        refine xg_7 S w lk_RX4_99 dX4_bestFittingShift_18 ?_
        refine x_eqi (x := s 7) (y := nI G) (hG) ?_
        refine lv_imul S.1 S.2.1 dX4_bestFittingShift_21 ?_
        refine x_eqi (x := 2 * (nI G)) (y := nI (2 * G)) (pk_mul 2 G) ?_
        refine lv_iconst (v := 1) S.1 S.2.1 dX4_bestFittingShift_22 (by decide) ?_
        refine lv_iadd S.1 S.2.1 dX4_bestFittingShift_23 ?_
        refine x_eqi (x := (nI (2 * G)) + 1) (y := nI (2 * G + 1)) (nI_1 _) ?_
        refine lv_icmp_gt (tgt := 75) S.1 S.2.1 dX4_bestFittingShift_24 (by decide) (fun z => absurd z (fun z9 => by have := (nI_ltI (a := 2 * G + 1) (b := 2 * i + 3) (by omega) (by omega)).mp z9; omega : ¬ ((nI (2 * G + 1)) < (nI (2 * i + 3))))) (fun _ => ?_)
        refine lv_iload S.1 S.2.1 dX4_bestFittingShift_27 (lv_at hl 0 rfl) ?_
        refine lv_iconst (v := 2) S.1 S.2.1 dX4_bestFittingShift_29 (by decide) ?_
        refine lv_irem S.1 S.2.1 dX4_bestFittingShift_30 (by decide) ?_
        refine x_eqi (x := (nI (2 * i + 3)) - (nI (2 * i + 3)) / 2 * 2) (y := 1) (bf_ro (by omega)) ?_
        refine lv_if_ne (tgt := 42) S.1 S.2.1 dX4_bestFittingShift_31 (by decide) (fun _ => ?_) (fun z => absurd z (by decide : ¬ (1 : Int32) = 0))
        refine lv_iload S.1 S.2.1 dX4_bestFittingShift_42 (lv_at hl 0 rfl) ?_
        refine lv_iconst (v := 2) S.1 S.2.1 dX4_bestFittingShift_44 (by decide) ?_
        refine lv_idiv S.1 S.2.1 dX4_bestFittingShift_45 (by decide) ?_
        refine x_eqi (x := (nI (2 * i + 3)) / 2) (y := nI (i + 1)) (bf_dp (by omega)) ?_
        refine lv_istore (lv' := [(5, .int (nI (i + 1))), (4, .int (nI (2 * i + 3))), (6, .long (misf f N (-(nI (i + 1))))), (0, .ref (a 0)), (1, .int (bst (misf f N) i)), (2, .long (misf f N (bst (misf f N) i)))]) S.1 S.2.1 dX4_bestFittingShift_46 hl (by decide) rfl (fun ls hl => ?_)
        refine lv_aload_n S.1 S.2.1 dX4_bestFittingShift_48 rfl (lv_at hl 3 rfl) ?_
        refine lv_iload S.1 S.2.1 dX4_bestFittingShift_49 (lv_at hl 0 rfl) ?_
        refine x_Vl (As := [.int (nI (i + 1))]) (rest := []) S w (goodV lk_RX4_265 li_X4_misfit ls_X4_misfit ln_RX4 lc_X4_misfit) hV_X4_misfit (k_X4_misfit l D cI cO a R s f N (nI (i + 1)) hN h4 h48) rfl 0 4 rfl rfl xc_0 ⟨(Nat.le_of_ble_eq_true rfl), (Nat.le_of_ble_eq_true rfl)⟩ ⟨rfl, rfl⟩ hl.1 rfl (Nat.le_of_ble_eq_true rfl) ⟨Nat.zero_le _, Nat.zero_le _⟩ dX4_bestFittingShift_51 (fun H locs (w : Wd D (kT cI cO) (va_A _ _) _ _ (xW cI cO a s f R) H locs) => ?_)
        refine x_eql (x := o_X4_misfit s f N (nI (i + 1))) (y := sumL (fun y => Int32.toInt64 (iabs (f 3 (rix N (nI y + (nI (i + 1)))) - f 4 y))) N) rfl ?_
        refine x_eql (x := sumL (fun y => Int32.toInt64 (iabs (f 3 (rix N (nI y + (nI (i + 1)))) - f 4 y))) N) (y := misf f N (nI (i + 1))) (rfl) ?_
        refine lv_lstore (lv' := [(6, .long (misf f N (nI (i + 1)))), (5, .int (nI (i + 1))), (4, .int (nI (2 * i + 3))), (0, .ref (a 0)), (1, .int (bst (misf f N) i)), (2, .long (misf f N (bst (misf f N) i)))]) S.1 S.2.1 dX4_bestFittingShift_54 hl (by decide) rfl (fun ls hl => ?_)
        refine lv_lload S.1 S.2.1 dX4_bestFittingShift_56 (lv_at hl 0 rfl) ?_
        refine lv_lload_n S.1 S.2.1 dX4_bestFittingShift_58 rfl (lv_at hl 5 rfl) ?_
        refine x_lif_ge (tgt := 69) S.1 S.2.1 dX4_bestFittingShift_59 dX4_bestFittingShift_60 (by decide) (fun (c_6 : (misf f N (bst (misf f N) i)) ≤ (misf f N (nI (i + 1)))) => ?_) (fun (c_6 : ¬ ((misf f N (bst (misf f N) i)) ≤ (misf f N (nI (i + 1))))) => ?_)
        · refine lv_iinc (v := nI (2 * (i + 1) + 2)) (lv' := [(4, .int (nI (2 * (i + 1) + 2))), (6, .long (misf f N (nI (i + 1)))), (5, .int (nI (i + 1))), (0, .ref (a 0)), (1, .int (bst (misf f N) i)), (2, .long (misf f N (bst (misf f N) i)))]) S.1 S.2.1 dX4_bestFittingShift_69 hl (k := 2) rfl ((x_inc _).trans (congrArg nI (by omega))) (by decide) rfl (fun ls hl => ?_)
          refine lv_goto (tgt := 11) S.1 S.2.1 dX4_bestFittingShift_72 (by decide) ?_
          have hs : bst (misf f N) i = bst (misf f N) (i + 1) := by
            rw [bst, if_neg (Int64.not_lt.mpr c_3), if_neg (Int64.not_lt.mpr c_6)]
          exact ih (i + 1) _ _ _ (by omega) (by omega) w (lv_sub hl [3, 4, 5, 0] (by rw [← hs]; rfl))
        · refine lv_lload S.1 S.2.1 dX4_bestFittingShift_63 (lv_at hl 0 rfl) ?_
          refine lv_lstore_n (lv' := [(2, .long (misf f N (nI (i + 1)))), (6, .long (misf f N (nI (i + 1)))), (5, .int (nI (i + 1))), (4, .int (nI (2 * i + 3))), (0, .ref (a 0)), (1, .int (bst (misf f N) i))]) S.1 S.2.1 dX4_bestFittingShift_65 rfl hl (by decide) rfl (fun ls hl => ?_)
          refine lv_iload S.1 S.2.1 dX4_bestFittingShift_66 (lv_at hl 2 rfl) ?_
          refine lv_istore_n (lv' := [(1, .int (nI (i + 1))), (2, .long (misf f N (nI (i + 1)))), (6, .long (misf f N (nI (i + 1)))), (5, .int (nI (i + 1))), (4, .int (nI (2 * i + 3))), (0, .ref (a 0))]) S.1 S.2.1 dX4_bestFittingShift_68 rfl hl (by decide) rfl (fun ls hl => ?_)
          refine lv_iinc (v := nI (2 * (i + 1) + 2)) (lv' := [(4, .int (nI (2 * (i + 1) + 2))), (1, .int (nI (i + 1))), (2, .long (misf f N (nI (i + 1)))), (6, .long (misf f N (nI (i + 1)))), (5, .int (nI (i + 1))), (0, .ref (a 0))]) S.1 S.2.1 dX4_bestFittingShift_69 hl (k := 4) rfl ((x_inc _).trans (congrArg nI (by omega))) (by decide) rfl (fun ls hl => ?_)
          refine lv_goto (tgt := 11) S.1 S.2.1 dX4_bestFittingShift_72 (by decide) ?_
          have hs : nI (i + 1) = bst (misf f N) (i + 1) := by
            rw [bst, if_neg (Int64.not_lt.mpr c_3), if_pos (Int64.not_le.mp c_6)]
          exact ih (i + 1) _ _ _ (by omega) (by omega) w (lv_sub hl [5, 1, 2, 0] (by rw [← hs]; rfl))
      · refine lv_lload S.1 S.2.1 dX4_bestFittingShift_63 (lv_at hl 0 rfl) ?_
        refine lv_lstore_n (lv' := [(2, .long (misf f N (-(nI (i + 1))))), (6, .long (misf f N (-(nI (i + 1))))), (5, .int (-(nI (i + 1)))), (0, .ref (a 0)), (1, .int (bst (misf f N) i)), (4, .int (nI (2 * i + 2)))]) S.1 S.2.1 dX4_bestFittingShift_65 rfl hl (by decide) rfl (fun ls hl => ?_)
        refine lv_iload S.1 S.2.1 dX4_bestFittingShift_66 (lv_at hl 2 rfl) ?_
        refine lv_istore_n (lv' := [(1, .int (-(nI (i + 1)))), (2, .long (misf f N (-(nI (i + 1))))), (6, .long (misf f N (-(nI (i + 1))))), (5, .int (-(nI (i + 1)))), (0, .ref (a 0)), (4, .int (nI (2 * i + 2)))]) S.1 S.2.1 dX4_bestFittingShift_68 rfl hl (by decide) rfl (fun ls hl => ?_)
        refine lv_iinc (v := nI (2 * i + 3)) (lv' := [(4, .int (nI (2 * i + 3))), (1, .int (-(nI (i + 1)))), (2, .long (misf f N (-(nI (i + 1))))), (6, .long (misf f N (-(nI (i + 1))))), (5, .int (-(nI (i + 1)))), (0, .ref (a 0))]) S.1 S.2.1 dX4_bestFittingShift_69 hl (k := 5) rfl (x_inc _) (by decide) rfl (fun ls hl => ?_)
        refine lv_goto (tgt := 11) S.1 S.2.1 dX4_bestFittingShift_72 (by decide) ?_
        refine lv_iload S.1 S.2.1 dX4_bestFittingShift_11 (lv_at hl 0 rfl) ?_
        refine lv_iconst (v := 2) S.1 S.2.1 dX4_bestFittingShift_13 (by decide) ?_
        refine lv_aload_n S.1 S.2.1 dX4_bestFittingShift_14 rfl (lv_at hl 5 rfl) ?_
        refine xr_1 S w lk_RX4_10 dX4_bestFittingShift_15 ?_
        refine xg_7 S w lk_RX4_99 dX4_bestFittingShift_18 ?_
        refine x_eqi (x := s 7) (y := nI G) (hG) ?_
        refine lv_imul S.1 S.2.1 dX4_bestFittingShift_21 ?_
        refine x_eqi (x := 2 * (nI G)) (y := nI (2 * G)) (pk_mul 2 G) ?_
        refine lv_iconst (v := 1) S.1 S.2.1 dX4_bestFittingShift_22 (by decide) ?_
        refine lv_iadd S.1 S.2.1 dX4_bestFittingShift_23 ?_
        refine x_eqi (x := (nI (2 * G)) + 1) (y := nI (2 * G + 1)) (nI_1 _) ?_
        refine lv_icmp_gt (tgt := 75) S.1 S.2.1 dX4_bestFittingShift_24 (by decide) (fun z => absurd z (fun z9 => by have := (nI_ltI (a := 2 * G + 1) (b := 2 * i + 3) (by omega) (by omega)).mp z9; omega : ¬ ((nI (2 * G + 1)) < (nI (2 * i + 3))))) (fun _ => ?_)
        refine lv_iload S.1 S.2.1 dX4_bestFittingShift_27 (lv_at hl 0 rfl) ?_
        refine lv_iconst (v := 2) S.1 S.2.1 dX4_bestFittingShift_29 (by decide) ?_
        refine lv_irem S.1 S.2.1 dX4_bestFittingShift_30 (by decide) ?_
        refine x_eqi (x := (nI (2 * i + 3)) - (nI (2 * i + 3)) / 2 * 2) (y := 1) (bf_ro (by omega)) ?_
        refine lv_if_ne (tgt := 42) S.1 S.2.1 dX4_bestFittingShift_31 (by decide) (fun _ => ?_) (fun z => absurd z (by decide : ¬ (1 : Int32) = 0))
        refine lv_iload S.1 S.2.1 dX4_bestFittingShift_42 (lv_at hl 0 rfl) ?_
        refine lv_iconst (v := 2) S.1 S.2.1 dX4_bestFittingShift_44 (by decide) ?_
        refine lv_idiv S.1 S.2.1 dX4_bestFittingShift_45 (by decide) ?_
        refine x_eqi (x := (nI (2 * i + 3)) / 2) (y := nI (i + 1)) (bf_dp (by omega)) ?_
        refine lv_istore (lv' := [(5, .int (nI (i + 1))), (4, .int (nI (2 * i + 3))), (1, .int (-(nI (i + 1)))), (2, .long (misf f N (-(nI (i + 1))))), (6, .long (misf f N (-(nI (i + 1))))), (0, .ref (a 0))]) S.1 S.2.1 dX4_bestFittingShift_46 hl (by decide) rfl (fun ls hl => ?_)
        refine lv_aload_n S.1 S.2.1 dX4_bestFittingShift_48 rfl (lv_at hl 5 rfl) ?_
        refine lv_iload S.1 S.2.1 dX4_bestFittingShift_49 (lv_at hl 0 rfl) ?_
        refine x_Vl (As := [.int (nI (i + 1))]) (rest := []) S w (goodV lk_RX4_265 li_X4_misfit ls_X4_misfit ln_RX4 lc_X4_misfit) hV_X4_misfit (k_X4_misfit l D cI cO a R s f N (nI (i + 1)) hN h4 h48) rfl 0 4 rfl rfl xc_0 ⟨(Nat.le_of_ble_eq_true rfl), (Nat.le_of_ble_eq_true rfl)⟩ ⟨rfl, rfl⟩ hl.1 rfl (Nat.le_of_ble_eq_true rfl) ⟨Nat.zero_le _, Nat.zero_le _⟩ dX4_bestFittingShift_51 (fun H locs (w : Wd D (kT cI cO) (va_A _ _) _ _ (xW cI cO a s f R) H locs) => ?_)
        refine x_eql (x := o_X4_misfit s f N (nI (i + 1))) (y := sumL (fun y => Int32.toInt64 (iabs (f 3 (rix N (nI y + (nI (i + 1)))) - f 4 y))) N) rfl ?_
        refine x_eql (x := sumL (fun y => Int32.toInt64 (iabs (f 3 (rix N (nI y + (nI (i + 1)))) - f 4 y))) N) (y := misf f N (nI (i + 1))) (rfl) ?_
        refine lv_lstore (lv' := [(6, .long (misf f N (nI (i + 1)))), (5, .int (nI (i + 1))), (4, .int (nI (2 * i + 3))), (1, .int (-(nI (i + 1)))), (2, .long (misf f N (-(nI (i + 1))))), (0, .ref (a 0))]) S.1 S.2.1 dX4_bestFittingShift_54 hl (by decide) rfl (fun ls hl => ?_)
        refine lv_lload S.1 S.2.1 dX4_bestFittingShift_56 (lv_at hl 0 rfl) ?_
        refine lv_lload_n S.1 S.2.1 dX4_bestFittingShift_58 rfl (lv_at hl 4 rfl) ?_
        refine x_lif_ge (tgt := 69) S.1 S.2.1 dX4_bestFittingShift_59 dX4_bestFittingShift_60 (by decide) (fun (c_9 : (misf f N (-(nI (i + 1)))) ≤ (misf f N (nI (i + 1)))) => ?_) (fun (c_9 : ¬ ((misf f N (-(nI (i + 1)))) ≤ (misf f N (nI (i + 1))))) => ?_)
        · refine lv_iinc (v := nI (2 * (i + 1) + 2)) (lv' := [(4, .int (nI (2 * (i + 1) + 2))), (6, .long (misf f N (nI (i + 1)))), (5, .int (nI (i + 1))), (1, .int (-(nI (i + 1)))), (2, .long (misf f N (-(nI (i + 1))))), (0, .ref (a 0))]) S.1 S.2.1 dX4_bestFittingShift_69 hl (k := 2) rfl ((x_inc _).trans (congrArg nI (by omega))) (by decide) rfl (fun ls hl => ?_)
          refine lv_goto (tgt := 11) S.1 S.2.1 dX4_bestFittingShift_72 (by decide) ?_
          have hs : -(nI (i + 1)) = bst (misf f N) (i + 1) := by
            rw [bst, if_pos (Int64.not_le.mp c_3), if_neg (Int64.not_lt.mpr c_9)]
          exact ih (i + 1) _ _ _ (by omega) (by omega) w (lv_sub hl [5, 3, 4, 0] (by rw [← hs]; rfl))
        · refine lv_lload S.1 S.2.1 dX4_bestFittingShift_63 (lv_at hl 0 rfl) ?_
          refine lv_lstore_n (lv' := [(2, .long (misf f N (nI (i + 1)))), (6, .long (misf f N (nI (i + 1)))), (5, .int (nI (i + 1))), (4, .int (nI (2 * i + 3))), (1, .int (-(nI (i + 1)))), (0, .ref (a 0))]) S.1 S.2.1 dX4_bestFittingShift_65 rfl hl (by decide) rfl (fun ls hl => ?_)
          refine lv_iload S.1 S.2.1 dX4_bestFittingShift_66 (lv_at hl 2 rfl) ?_
          refine lv_istore_n (lv' := [(1, .int (nI (i + 1))), (2, .long (misf f N (nI (i + 1)))), (6, .long (misf f N (nI (i + 1)))), (5, .int (nI (i + 1))), (4, .int (nI (2 * i + 3))), (0, .ref (a 0))]) S.1 S.2.1 dX4_bestFittingShift_68 rfl hl (by decide) rfl (fun ls hl => ?_)
          refine lv_iinc (v := nI (2 * (i + 1) + 2)) (lv' := [(4, .int (nI (2 * (i + 1) + 2))), (1, .int (nI (i + 1))), (2, .long (misf f N (nI (i + 1)))), (6, .long (misf f N (nI (i + 1)))), (5, .int (nI (i + 1))), (0, .ref (a 0))]) S.1 S.2.1 dX4_bestFittingShift_69 hl (k := 4) rfl ((x_inc _).trans (congrArg nI (by omega))) (by decide) rfl (fun ls hl => ?_)
          refine lv_goto (tgt := 11) S.1 S.2.1 dX4_bestFittingShift_72 (by decide) ?_
          have hs : nI (i + 1) = bst (misf f N) (i + 1) := by
            rw [bst, if_pos (Int64.not_le.mp c_3), if_pos (Int64.not_le.mp c_9)]
          exact ih (i + 1) _ _ _ (by omega) (by omega) w (lv_sub hl [5, 1, 2, 0] (by rw [← hs]; rfl))
def o_X4_bestFittingShift (s : Nat → Int32) (f : Nat → Nat → Int32) (N : Nat) (G : Nat) : Int32 := o_X4_bestFittingShift_11 s f N G
set_option maxHeartbeats 4000000 in
set_option maxRecDepth 100000 in
theorem k_X4_bestFittingShift (l : Launch) (D : va_G) (cI cO : ClassId) (a : Nat → Nat) (R : va_W) (s : Nat → Int32) (f : Nat → Nat → Int32) (N : Nat) (G : Nat) (hN : s 0 = nI N) (h4 : 4 ≤ N) (h48 : N ≤ 48) (hG : s 7 = nI G) (hG5 : G ≤ 5) : Mi l yX4_bestFittingShift cX4_bestFittingShift 8 (some .int) { frames := 3, cells := 0, slots := 0, locals := 60 } D (kT cI cO) (xW cI cO a s f R) [.ref (a 0)] (xW cI cO a s f R) (o_X4_bestFittingShift s f N G) := by
  intro sz
  refine ent (by decide +kernel) (Nat.le_of_ble_eq_true rfl) ?_
  intro p e st m below meth c ls S hr hlk hnm w hsz hl
  have hl : lv_has ls 8 [(0, .ref (a 0))] := hl
  refine lv_iconst (v := 0) S.1 S.2.1 dX4_bestFittingShift_0 (by decide) ?_
  refine lv_istore_n (lv' := [(1, .int 0), (0, .ref (a 0))]) S.1 S.2.1 dX4_bestFittingShift_1 rfl hl (by decide) rfl (fun ls hl => ?_)
  refine lv_aload_n S.1 S.2.1 dX4_bestFittingShift_2 rfl (lv_at hl 1 rfl) ?_
  refine lv_iconst (v := 0) S.1 S.2.1 dX4_bestFittingShift_3 (by decide) ?_
  refine x_Vl (As := [.int 0]) (rest := []) S w (goodV lk_RX4_265 li_X4_misfit ls_X4_misfit ln_RX4 lc_X4_misfit) hV_X4_misfit (k_X4_misfit l D cI cO a R s f N 0 hN h4 h48) rfl 0 4 rfl rfl xc_0 ⟨(Nat.le_of_ble_eq_true rfl), (Nat.le_of_ble_eq_true rfl)⟩ ⟨rfl, rfl⟩ hl.1 rfl (Nat.le_of_ble_eq_true rfl) ⟨Nat.zero_le _, Nat.zero_le _⟩ dX4_bestFittingShift_4 (fun H locs (w : Wd D (kT cI cO) (va_A _ _) _ _ (xW cI cO a s f R) H locs) => ?_)
  refine x_eql (x := o_X4_misfit s f N 0) (y := sumL (fun y => Int32.toInt64 (iabs (f 3 (rix N (nI y + 0)) - f 4 y))) N) rfl ?_
  refine x_eql (x := sumL (fun y => Int32.toInt64 (iabs (f 3 (rix N (nI y + 0)) - f 4 y))) N) (y := misf f N 0) (rfl) ?_
  refine lv_lstore_n (lv' := [(2, .long (misf f N 0)), (1, .int 0), (0, .ref (a 0))]) S.1 S.2.1 dX4_bestFittingShift_7 rfl hl (by decide) rfl (fun ls hl => ?_)
  refine lv_iconst (v := 2) S.1 S.2.1 dX4_bestFittingShift_8 (by decide) ?_
  refine lv_istore (lv' := [(4, .int 2), (2, .long (misf f N 0)), (1, .int 0), (0, .ref (a 0))]) S.1 S.2.1 dX4_bestFittingShift_9 hl (by decide) rfl (fun ls hl => ?_)
  refine x_toi (show o_X4_bestFittingShift_11 s f N G = o_X4_bestFittingShift s f N G from by simp only [o_X4_bestFittingShift]) (show xW cI cO a s f R = xW cI cO a s f R from by simp only [o_X4_bestFittingShift]) ?_
  exact j_X4_bestFittingShift_11 l D cI cO a R s f N G hN h4 h48 hG hG5 S hr hlk (G + 1) 0 _ _ _ (by omega) (by omega) w (lv_sub hl [3, 2, 1, 0] rfl)
