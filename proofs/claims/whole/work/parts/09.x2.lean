def o_J9_floorMod_7cf53 (X : Nat) : Int32 := nI (X % 5)
set_option maxHeartbeats 4000000 in
set_option maxRecDepth 100000 in
theorem k_J9_floorMod_7cf53 (l : Launch) (D : va_G) (tys : List (ClassId × FieldType)) (ws : va_W) (X : Nat) (hX : X < 2 ^ 31) : Mi l yJ9_floorMod_7cf53 cJ9_floorMod_7cf53 3 (some .int) { frames := 0, cells := 0, slots := 0, locals := 0 } D tys ws [.int (nI X), .int 5] ws (o_J9_floorMod_7cf53 X) := by
  intro sz
  refine ent (by decide +kernel) (Nat.le_of_ble_eq_true rfl) ?_
  intro p e st m below meth c ls S hr hlk hnm w hsz hl
  have hl : lv_has ls 3 [(0, .int (nI X)), (1, .int 5)] := hl
  refine lv_iload_n S.1 S.2.1 dJ9_floorMod_7cf53_0 rfl (lv_at hl 0 rfl) ?_
  refine lv_iload_n S.1 S.2.1 dJ9_floorMod_7cf53_1 rfl (lv_at hl 1 rfl) ?_
  refine lv_irem S.1 S.2.1 dJ9_floorMod_7cf53_2 (by decide) ?_
  refine x_eqi (x := (nI X) - (nI X) / 5 * 5) (y := nI (X % 5)) (pk_rem hX (by decide) (by decide)) ?_
  refine lv_istore_n (lv' := [(2, .int (nI (X % 5))), (0, .int (nI X)), (1, .int 5)]) S.1 S.2.1 dJ9_floorMod_7cf53_3 rfl hl (by decide) rfl (fun ls hl => ?_)
  refine lv_iload_n S.1 S.2.1 dJ9_floorMod_7cf53_4 rfl (lv_at hl 1 rfl) ?_
  refine lv_iload_n S.1 S.2.1 dJ9_floorMod_7cf53_5 rfl (lv_at hl 2 rfl) ?_
  refine lv_ixor S.1 S.2.1 dJ9_floorMod_7cf53_6 ?_
  refine lv_if_ge (tgt := 18) S.1 S.2.1 dJ9_floorMod_7cf53_7 (by decide) (fun _ => ?_) (fun z => absurd (xor_pos hX : 0 ≤ ((nI X) ^^^ 5)) z)
  refine lv_iload_n S.1 S.2.1 dJ9_floorMod_7cf53_18 rfl (lv_at hl 0 rfl) ?_
  exact x_reti S w hr hlk dJ9_floorMod_7cf53_19 (show nI (X % 5) = o_J9_floorMod_7cf53 X from by simp only [o_J9_floorMod_7cf53]) (show ws = ws from rfl)
def o_X1_slot (s : Nat → Int32) (f : Nat → Nat → Int32) (g : Int32) : Int32 := nI (slt (s 19) g)
set_option maxHeartbeats 4000000 in
set_option maxRecDepth 100000 in
theorem k_X1_slot (l : Launch) (D : va_G) (cI cO : ClassId) (a : Nat → Nat) (R : va_W) (s : Nat → Int32) (f : Nat → Nat → Int32) (K : Nat) (A : Nat) (g : Int32) (hK : s 19 = nI K) (hK2 : K < 1000000) (hA : g = nI A) (hlt : A < K) : Mi l yX1_slot cX1_slot 2 (some .int) { frames := 1, cells := 0, slots := 0, locals := 22 } D (kT cI cO) (xW cI cO a s f R) [.ref (a 3), .int g] (xW cI cO a s f R) (o_X1_slot s f g) := by
  intro sz
  refine ent (by decide +kernel) (Nat.le_of_ble_eq_true rfl) ?_
  intro p e st m below meth c ls S hr hlk hnm w hsz hl
  have hl : lv_has ls 2 [(0, .ref (a 3)), (1, .int g)] := hl
  refine lv_aload_n S.1 S.2.1 dX1_slot_0 rfl (lv_at hl 0 rfl) ?_
  refine xg_19 S w lk_RX1_23 dX1_slot_1 ?_
  refine x_eqi (x := s 19) (y := nI K) (hK) ?_
  refine lv_iconst (v := 1) S.1 S.2.1 dX1_slot_4 (by decide) ?_
  refine lv_isub S.1 S.2.1 dX1_slot_5 ?_
  refine x_eqi (x := (nI K) - 1) (y := nI (K - 1)) (pk_sub (b := 1) (by omega)) ?_
  refine lv_iload_n S.1 S.2.1 dX1_slot_6 rfl (lv_at hl 1 rfl) ?_
  refine lv_isub S.1 S.2.1 dX1_slot_7 ?_
  refine x_eqi (x := (nI (K - 1)) - g) (y := nI (K - 1 - A)) (by rw [hA]; exact pk_sub (by omega)) ?_
  refine lv_iconst (v := 5) S.1 S.2.1 dX1_slot_8 (by decide) ?_
  refine x_Si (As := [.int (nI (K - 1 - A)), .int 5]) (rest := []) S w (goodS lk_RX1_27 lt_J9_floorMod_7cf53 ln_RJ9 lc_J9_floorMod_7cf53) hd_J9_floorMod_7cf53 (k_J9_floorMod_7cf53 l _ _ (xW cI cO a s f R) (K - 1 - A) (by omega)) rfl ⟨(Nat.le_of_ble_eq_true rfl), (Nat.le_of_ble_eq_true rfl)⟩ ⟨rfl, rfl⟩ hl.1 rfl (Nat.le_of_ble_eq_true rfl) ⟨Nat.zero_le _, Nat.zero_le _⟩ dX1_slot_9 (fun H locs (w : Wd D (kT cI cO) (va_A _ _) _ _ (xW cI cO a s f R) H locs) => ?_)
  refine x_eqi (x := o_J9_floorMod_7cf53 (K - 1 - A)) (y := nI ((K - 1 - A) % 5)) rfl ?_
  refine x_eqi (x := nI ((K - 1 - A) % 5)) (y := nI (slt (s 19) g)) (slt_eq hK hK2 hA hlt) ?_
  exact x_reti S w hr hlk dX1_slot_12 (show nI (slt (s 19) g) = o_X1_slot s f g from by simp only [o_X1_slot]) (show xW cI cO a s f R = xW cI cO a s f R from rfl)
def o_X1_reaches (s : Nat → Int32) (f : Nat → Nat → Int32) (g : Int32) : Int32 := if (s 19) ≤ g then 0 else 1
set_option maxHeartbeats 4000000 in
set_option maxRecDepth 100000 in
theorem k_X1_reaches (l : Launch) (D : va_G) (cI cO : ClassId) (a : Nat → Nat) (R : va_W) (s : Nat → Int32) (f : Nat → Nat → Int32) (g : Int32) : Mi l yX1_reaches cX1_reaches 2 (some .boolean) { frames := 0, cells := 0, slots := 0, locals := 0 } D (kT cI cO) (xW cI cO a s f R) [.ref (a 3), .int g] (xW cI cO a s f R) (o_X1_reaches s f g) := by
  intro sz
  refine ent (by decide +kernel) (Nat.le_of_ble_eq_true rfl) ?_
  intro p e st m below meth c ls S hr hlk hnm w hsz hl
  have hl : lv_has ls 2 [(0, .ref (a 3)), (1, .int g)] := hl
  refine lv_iload_n S.1 S.2.1 dX1_reaches_0 rfl (lv_at hl 1 rfl) ?_
  refine lv_aload_n S.1 S.2.1 dX1_reaches_1 rfl (lv_at hl 0 rfl) ?_
  refine xg_19 S w lk_RX1_23 dX1_reaches_2 ?_
  refine lv_icmp_ge (tgt := 12) S.1 S.2.1 dX1_reaches_5 (by decide) (fun (c_1 : (s 19) ≤ g) => ?_) (fun (c_1 : ¬ ((s 19) ≤ g)) => ?_)
  · refine lv_iconst (v := 0) S.1 S.2.1 dX1_reaches_12 (by decide) ?_
    exact x_retz S w hr hlk dX1_reaches_13 (Or.inl rfl) (show 0 = o_X1_reaches s f g from by simp only [o_X1_reaches, if_pos c_1]) (show xW cI cO a s f R = xW cI cO a s f R from rfl)
  · refine lv_iconst (v := 1) S.1 S.2.1 dX1_reaches_8 (by decide) ?_
    refine lv_goto (tgt := 13) S.1 S.2.1 dX1_reaches_9 (by decide) ?_
    exact x_retz S w hr hlk dX1_reaches_13 (Or.inr rfl) (show 1 = o_X1_reaches s f g from by simp only [o_X1_reaches, if_neg c_1]) (show xW cI cO a s f R = xW cI cO a s f R from rfl)
set_option maxHeartbeats 4000000 in
set_option maxRecDepth 100000 in
theorem k_X1_errorsOf (l : Launch) (D : va_G) (cI cO : ClassId) (a : Nat → Nat) (R : va_W) (s : Nat → Int32) (f : Nat → Nat → Int32) (K : Nat) (A : Nat) (g : Int32) (hK : s 19 = nI K) (hK2 : K < 1000000) (hA : g = nI A) (hlt : A < K) : Mr l yX1_errorsOf cX1_errorsOf 2 (some (.array .int)) { frames := 2, cells := 0, slots := 0, locals := 43 } D (kT cI cO) (xW cI cO a s f R) [.ref (a 3), .int g] (xW cI cO a s f R) (a (16 + (slt (s 19) g))) := by
  intro sz
  refine ent (by decide +kernel) (Nat.le_of_ble_eq_true rfl) ?_
  intro p e st m below meth c ls S hr hlk hnm w hsz hl
  have hl : lv_has ls 2 [(0, .ref (a 3)), (1, .int g)] := hl
  refine lv_aload_n S.1 S.2.1 dX1_errorsOf_0 rfl (lv_at hl 0 rfl) ?_
  refine xr_15 S w lk_RX1_13 dX1_errorsOf_1 ?_
  refine lv_aload_n S.1 S.2.1 dX1_errorsOf_4 rfl (lv_at hl 0 rfl) ?_
  refine lv_iload_n S.1 S.2.1 dX1_errorsOf_5 rfl (lv_at hl 1 rfl) ?_
  refine x_Vi (As := [.int g]) (rest := [.ref (a 15)]) S w (goodV lk_RX1_33 li_X1_slot ls_X1_slot ln_RX1 lc_X1_slot) hV_X1_slot (k_X1_slot l D cI cO a R s f K A g hK hK2 hA hlt) rfl 3 1 rfl rfl xc_3 ⟨(Nat.le_of_ble_eq_true rfl), (Nat.le_of_ble_eq_true rfl)⟩ ⟨rfl, rfl⟩ hl.1 rfl (Nat.le_of_ble_eq_true rfl) ⟨Nat.zero_le _, Nat.zero_le _⟩ dX1_errorsOf_6 (fun H locs (w : Wd D (kT cI cO) (va_A _ _) _ _ (xW cI cO a s f R) H locs) => ?_)
  refine x_eqi (x := o_X1_slot s f g) (y := nI (slt (s 19) g)) rfl ?_
  refine x_aald S w 15 1 (v := a (16 + (slt (s 19) g))) (slt (s 19) g) (slt_lt _ _) (rfl) (Nat.le_of_ble_eq_true rfl) xc_15 rfl (if_pos (slt_lt _ _)) dX1_errorsOf_9 ?_
  exact x_reta S w hr hlk dX1_errorsOf_10 rfl rfl
def o_X1_hasGrown (s : Nat → Int32) (f : Nat → Nat → Int32) (K : Nat) (k : Int32) : Int32 := if (nI K) < 2 then 0 else if (iabs ((f (10 + (slt (s 19) 0))) (Int32.toNatClampNeg k))) ≤ (iabs ((f (10 + (slt (s 19) 1))) (Int32.toNatClampNeg k))) then 0 else 1
set_option maxHeartbeats 4000000 in
set_option maxRecDepth 100000 in
theorem k_X1_hasGrown (l : Launch) (D : va_G) (cI cO : ClassId) (a : Nat → Nat) (R : va_W) (s : Nat → Int32) (f : Nat → Nat → Int32) (N : Nat) (K : Nat) (k : Int32) (hK : s 19 = nI K) (hK2 : K < 1000000) (h48 : N ≤ 48) (hj : Int32.toNatClampNeg k < N ∧ k = nI (Int32.toNatClampNeg k)) : Mi l yX1_hasGrown cX1_hasGrown 2 (some .boolean) { frames := 3, cells := 0, slots := 0, locals := 64 } D (kT cI cO) (xW cI cO a s f R) [.ref (a 3), .int k] (xW cI cO a s f R) (o_X1_hasGrown s f K k) := by
  intro sz
  refine ent (by decide +kernel) (Nat.le_of_ble_eq_true rfl) ?_
  intro p e st m below meth c ls S hr hlk hnm w hsz hl
  have hl : lv_has ls 2 [(0, .ref (a 3)), (1, .int k)] := hl
  refine lv_aload_n S.1 S.2.1 dX1_hasGrown_0 rfl (lv_at hl 0 rfl) ?_
  refine xg_19 S w lk_RX1_23 dX1_hasGrown_1 ?_
  refine x_eqi (x := s 19) (y := nI K) (hK) ?_
  refine lv_iconst (v := 2) S.1 S.2.1 dX1_hasGrown_4 (by decide) ?_
  refine lv_icmp_lt (tgt := 35) S.1 S.2.1 dX1_hasGrown_5 (by decide) (fun (c_1 : (nI K) < 2) => ?_) (fun (c_1 : ¬ ((nI K) < 2)) => ?_)
  · refine lv_iconst (v := 0) S.1 S.2.1 dX1_hasGrown_35 (by decide) ?_
    exact x_retz S w hr hlk dX1_hasGrown_36 (Or.inl rfl) (show 0 = o_X1_hasGrown s f K k from by simp only [o_X1_hasGrown, if_pos c_1]) (show xW cI cO a s f R = xW cI cO a s f R from rfl)
  · have h2 : 2 ≤ K := Nat.le_of_not_lt (fun z => c_1 (nI_lt (b := 2) z (by decide)))
    refine lv_aload_n S.1 S.2.1 dX1_hasGrown_8 rfl (lv_at hl 0 rfl) ?_
    refine lv_iconst (v := 0) S.1 S.2.1 dX1_hasGrown_9 (by decide) ?_
    refine x_Vr (As := [.int 0]) (rest := []) S w (goodV lk_RX1_40 li_X1_errorsOf ls_X1_errorsOf ln_RX1 lc_X1_errorsOf) hV_X1_errorsOf (k_X1_errorsOf l D cI cO a R s f K 0 0 hK hK2 rfl (by omega)) rfl 3 1 rfl rfl xc_3 ⟨(Nat.le_of_ble_eq_true rfl), (Nat.le_of_ble_eq_true rfl)⟩ ⟨rfl, rfl⟩ hl.1 rfl (Nat.le_of_ble_eq_true rfl) ⟨Nat.zero_le _, Nat.zero_le _⟩ dX1_hasGrown_10 (fun H locs (w : Wd D (kT cI cO) (va_A _ _) _ _ (xW cI cO a s f R) H locs) => ?_)
    refine lv_iload_n S.1 S.2.1 dX1_hasGrown_13 rfl (lv_at hl 1 rfl) ?_
    refine x_iald S w (16 + (slt (s 19) 0)) 0 (g := f (10 + (slt (s 19) 0))) (v := (f (10 + (slt (s 19) 0))) (Int32.toNatClampNeg k)) (Int32.toNatClampNeg k) (by have := hj.1; omega) (hj.2) (Nat.le_of_ble_eq_true rfl) (x_row (by first | exact slt_lt _ _ | omega)) rfl (rfl) dX1_hasGrown_14 ?_
    refine x_mabs S lk_RX1_37 hl.1 (Nat.le_of_ble_eq_true rfl) (Nat.le_of_ble_eq_true rfl) (Nat.zero_le _) (Nat.zero_le _) dX1_hasGrown_15 ?_
    refine lv_aload_n S.1 S.2.1 dX1_hasGrown_18 rfl (lv_at hl 0 rfl) ?_
    refine lv_iconst (v := 1) S.1 S.2.1 dX1_hasGrown_19 (by decide) ?_
    refine x_Vr (As := [.int 1]) (rest := [.int (iabs ((f (10 + (slt (s 19) 0))) (Int32.toNatClampNeg k)))]) S w (goodV lk_RX1_40 li_X1_errorsOf ls_X1_errorsOf ln_RX1 lc_X1_errorsOf) hV_X1_errorsOf (k_X1_errorsOf l D cI cO a R s f K 1 1 hK hK2 rfl (by omega)) rfl 3 1 rfl rfl xc_3 ⟨(Nat.le_of_ble_eq_true rfl), (Nat.le_of_ble_eq_true rfl)⟩ ⟨rfl, rfl⟩ hl.1 rfl (Nat.le_of_ble_eq_true rfl) ⟨Nat.zero_le _, Nat.zero_le _⟩ dX1_hasGrown_20 (fun H locs (w : Wd D (kT cI cO) (va_A _ _) _ _ (xW cI cO a s f R) H locs) => ?_)
    refine lv_iload_n S.1 S.2.1 dX1_hasGrown_23 rfl (lv_at hl 1 rfl) ?_
    refine x_iald S w (16 + (slt (s 19) 1)) 0 (g := f (10 + (slt (s 19) 1))) (v := (f (10 + (slt (s 19) 1))) (Int32.toNatClampNeg k)) (Int32.toNatClampNeg k) (by have := hj.1; omega) (hj.2) (Nat.le_of_ble_eq_true rfl) (x_row (by first | exact slt_lt _ _ | omega)) rfl (rfl) dX1_hasGrown_24 ?_
    refine x_mabs S lk_RX1_37 hl.1 (Nat.le_of_ble_eq_true rfl) (Nat.le_of_ble_eq_true rfl) (Nat.zero_le _) (Nat.zero_le _) dX1_hasGrown_25 ?_
    refine lv_icmp_le (tgt := 35) S.1 S.2.1 dX1_hasGrown_28 (by decide) (fun (c_2 : (iabs ((f (10 + (slt (s 19) 0))) (Int32.toNatClampNeg k))) ≤ (iabs ((f (10 + (slt (s 19) 1))) (Int32.toNatClampNeg k)))) => ?_) (fun (c_2 : ¬ ((iabs ((f (10 + (slt (s 19) 0))) (Int32.toNatClampNeg k))) ≤ (iabs ((f (10 + (slt (s 19) 1))) (Int32.toNatClampNeg k))))) => ?_)
    · refine lv_iconst (v := 0) S.1 S.2.1 dX1_hasGrown_35 (by decide) ?_
      exact x_retz S w hr hlk dX1_hasGrown_36 (Or.inl rfl) (show 0 = o_X1_hasGrown s f K k from by simp only [o_X1_hasGrown, if_neg c_1, if_pos c_2]) (show xW cI cO a s f R = xW cI cO a s f R from rfl)
    · refine lv_iconst (v := 1) S.1 S.2.1 dX1_hasGrown_31 (by decide) ?_
      refine lv_goto (tgt := 36) S.1 S.2.1 dX1_hasGrown_32 (by decide) ?_
      exact x_retz S w hr hlk dX1_hasGrown_36 (Or.inr rfl) (show 1 = o_X1_hasGrown s f K k from by simp only [o_X1_hasGrown, if_neg c_1, if_neg c_2]) (show xW cI cO a s f R = xW cI cO a s f R from rfl)
theorem rch_lt {s : Nat → Int32} {f : Nat → Nat → Int32} {g : Int32} {K A : Nat} (hK : s 19 = nI K) (hK2 : K < 1000000) (hA : g = nI A) (hA2 : A < 100) (h : ¬ o_X1_reaches s f g = 0) : A < K := by
  unfold o_X1_reaches at h
  rw [hK, hA] at h
  by_cases h1 : nI K ≤ nI A
  · exact absurd (if_pos h1) h
  · exact Nat.lt_of_not_le (fun z => h1 (nI_le z (by omega)))
def o_X4_error (s : Nat → Int32) (f : Nat → Nat → Int32) (k : Int32) (g : Int32) : Int32 := if (wIn k 0 ((s 0) - 1)) = 0 then (-2000000001) else if (wIn g 0 4) = 0 then (-2000000001) else if (o_X1_reaches s f g) = 0 then (-2000000004) else (f (10 + (slt (s 19) g))) (Int32.toNatClampNeg k)
set_option maxHeartbeats 4000000 in
set_option maxRecDepth 100000 in
theorem k_X4_error (l : Launch) (D : va_G) (cI cO : ClassId) (a : Nat → Nat) (R : va_W) (s : Nat → Int32) (f : Nat → Nat → Int32) (N : Nat) (K : Nat) (k : Int32) (g : Int32) (hN : s 0 = nI N) (h4 : 4 ≤ N) (h48 : N ≤ 48) (hK : s 19 = nI K) (hK2 : K < 1000000) : Mi l yX4_error cX4_error 3 (some .int) { frames := 3, cells := 0, slots := 0, locals := 64 } D (kT cI cO) (xW cI cO a s f R) [.ref (a 0), .int k, .int g] (xW cI cO a s f R) (o_X4_error s f k g) := by
  intro sz
  refine ent (by decide +kernel) (Nat.le_of_ble_eq_true rfl) ?_
  intro p e st m below meth c ls S hr hlk hnm w hsz hl
  have hl : lv_has ls 3 [(0, .ref (a 0)), (1, .int k), (2, .int g)] := hl
  refine lv_aload_n S.1 S.2.1 dX4_error_0 rfl (lv_at hl 0 rfl) ?_
  refine lv_iload_n S.1 S.2.1 dX4_error_1 rfl (lv_at hl 1 rfl) ?_
  refine x_Vi (As := [.int k]) (rest := []) S w (goodV lk_RX4_69 li_X4_isSample ls_X4_isSample ln_RX4 lc_X4_isSample) hV_X4_isSample (k_X4_isSample l D cI cO a R s f k) rfl 0 4 rfl rfl xc_0 ⟨(Nat.le_of_ble_eq_true rfl), (Nat.le_of_ble_eq_true rfl)⟩ ⟨rfl, rfl⟩ hl.1 rfl (Nat.le_of_ble_eq_true rfl) ⟨Nat.zero_le _, Nat.zero_le _⟩ dX4_error_2 (fun H locs (w : Wd D (kT cI cO) (va_A _ _) _ _ (xW cI cO a s f R) H locs) => ?_)
  refine x_eqi (x := o_X4_isSample s f k) (y := wIn k 0 ((s 0) - 1)) rfl ?_
  refine lv_if_eq (tgt := 15) S.1 S.2.1 dX4_error_5 (by decide) (fun (c_1 : (wIn k 0 ((s 0) - 1)) = 0) => ?_) (fun (c_1 : ¬ ((wIn k 0 ((s 0) - 1)) = 0)) => ?_)
  · refine x_ldc S lk_RX4_64 dX4_error_15 ?_
    exact x_reti S w hr hlk dX4_error_17 (show (-2000000001) = o_X4_error s f k g from by simp only [o_X4_error, if_pos c_1]) (show xW cI cO a s f R = xW cI cO a s f R from rfl)
  · have hj := wIn_j hN h4 h48 c_1
    refine lv_iload_n S.1 S.2.1 dX4_error_8 rfl (lv_at hl 2 rfl) ?_
    refine x_Si (As := [.int g]) (rest := []) S w (goodS lk_RX4_145 lt_X4_isAge ln_RX4 lc_X4_isAge) hd_X4_isAge (k_X4_isAge l _ _ (xW cI cO a s f R) g) rfl ⟨(Nat.le_of_ble_eq_true rfl), (Nat.le_of_ble_eq_true rfl)⟩ ⟨rfl, rfl⟩ hl.1 rfl (Nat.le_of_ble_eq_true rfl) ⟨Nat.zero_le _, Nat.zero_le _⟩ dX4_error_9 (fun H locs (w : Wd D (kT cI cO) (va_A _ _) _ _ (xW cI cO a s f R) H locs) => ?_)
    refine x_eqi (x := o_X4_isAge g) (y := wIn g 0 4) rfl ?_
    refine lv_if_ne (tgt := 18) S.1 S.2.1 dX4_error_12 (by decide) (fun (c_2 : ¬ (wIn g 0 4) = 0) => ?_) (fun (c_2 : (wIn g 0 4) = 0) => ?_)
    · have hg := wIn_ix (n := 4) (by decide) rfl c_2
      refine lv_aload_n S.1 S.2.1 dX4_error_18 rfl (lv_at hl 0 rfl) ?_
      refine xr_3 S w lk_RX4_26 dX4_error_19 ?_
      refine lv_iload_n S.1 S.2.1 dX4_error_22 rfl (lv_at hl 2 rfl) ?_
      refine x_Vi (As := [.int g]) (rest := []) S w (goodV lk_RX4_148 li_X1_reaches ls_X1_reaches ln_RX1 lc_X1_reaches) hV_X1_reaches (k_X1_reaches l D cI cO a R s f g) rfl 3 1 rfl rfl xc_3 ⟨(Nat.le_of_ble_eq_true rfl), (Nat.le_of_ble_eq_true rfl)⟩ ⟨rfl, rfl⟩ hl.1 rfl (Nat.le_of_ble_eq_true rfl) ⟨Nat.zero_le _, Nat.zero_le _⟩ dX4_error_23 (fun H locs (w : Wd D (kT cI cO) (va_A _ _) _ _ (xW cI cO a s f R) H locs) => ?_)
      refine lv_if_eq (tgt := 42) S.1 S.2.1 dX4_error_26 (by decide) (fun (c_3 : (o_X1_reaches s f g) = 0) => ?_) (fun (c_3 : ¬ ((o_X1_reaches s f g) = 0)) => ?_)
      · refine x_ldc S lk_RX4_129 dX4_error_42 ?_
        exact x_reti S w hr hlk dX4_error_44 (show (-2000000004) = o_X4_error s f k g from by simp only [o_X4_error, if_neg c_1, if_neg c_2, if_pos c_3]) (show xW cI cO a s f R = xW cI cO a s f R from rfl)
      · have hlt := rch_lt hK hK2 hg.2 (by have := hg.1; omega) c_3
        refine lv_aload_n S.1 S.2.1 dX4_error_29 rfl (lv_at hl 0 rfl) ?_
        refine xr_3 S w lk_RX4_26 dX4_error_30 ?_
        refine lv_iload_n S.1 S.2.1 dX4_error_33 rfl (lv_at hl 2 rfl) ?_
        refine x_Vr (As := [.int g]) (rest := []) S w (goodV lk_RX4_151 li_X1_errorsOf ls_X1_errorsOf ln_RX1 lc_X1_errorsOf) hV_X1_errorsOf (k_X1_errorsOf l D cI cO a R s f K (Int32.toNatClampNeg g) g hK hK2 hg.2 hlt) rfl 3 1 rfl rfl xc_3 ⟨(Nat.le_of_ble_eq_true rfl), (Nat.le_of_ble_eq_true rfl)⟩ ⟨rfl, rfl⟩ hl.1 rfl (Nat.le_of_ble_eq_true rfl) ⟨Nat.zero_le _, Nat.zero_le _⟩ dX4_error_34 (fun H locs (w : Wd D (kT cI cO) (va_A _ _) _ _ (xW cI cO a s f R) H locs) => ?_)
        refine lv_iload_n S.1 S.2.1 dX4_error_37 rfl (lv_at hl 1 rfl) ?_
        refine x_iald S w (16 + (slt (s 19) g)) 0 (g := f (10 + (slt (s 19) g))) (v := (f (10 + (slt (s 19) g))) (Int32.toNatClampNeg k)) (Int32.toNatClampNeg k) (by have := hj.1; omega) (hj.2) (Nat.le_of_ble_eq_true rfl) (x_row (by first | exact slt_lt _ _ | omega)) rfl (rfl) dX4_error_38 ?_
        refine lv_goto (tgt := 44) S.1 S.2.1 dX4_error_39 (by decide) ?_
        exact x_reti S w hr hlk dX4_error_44 (show (f (10 + (slt (s 19) g))) (Int32.toNatClampNeg k) = o_X4_error s f k g from by simp only [o_X4_error, if_neg c_1, if_neg c_2, if_neg c_3]) (show xW cI cO a s f R = xW cI cO a s f R from rfl)
    · refine x_ldc S lk_RX4_64 dX4_error_15 ?_
      exact x_reti S w hr hlk dX4_error_17 (show (-2000000001) = o_X4_error s f k g from by simp only [o_X4_error, if_neg c_1, if_pos c_2]) (show xW cI cO a s f R = xW cI cO a s f R from rfl)
def o_X4_norm (s : Nat → Int32) (f : Nat → Nat → Int32) (g : Int32) : Int32 := if (wIn g 0 4) = 0 then (-2000000001) else if (o_X1_reaches s f g) = 0 then (-2000000004) else (f 7) (slt (s 19) g)
set_option maxHeartbeats 4000000 in
set_option maxRecDepth 100000 in
theorem k_X4_norm (l : Launch) (D : va_G) (cI cO : ClassId) (a : Nat → Nat) (R : va_W) (s : Nat → Int32) (f : Nat → Nat → Int32) (K : Nat) (g : Int32) (hK : s 19 = nI K) (hK2 : K < 1000000) : Mi l yX4_norm cX4_norm 2 (some .int) { frames := 2, cells := 0, slots := 0, locals := 43 } D (kT cI cO) (xW cI cO a s f R) [.ref (a 0), .int g] (xW cI cO a s f R) (o_X4_norm s f g) := by
  intro sz
  refine ent (by decide +kernel) (Nat.le_of_ble_eq_true rfl) ?_
  intro p e st m below meth c ls S hr hlk hnm w hsz hl
  have hl : lv_has ls 2 [(0, .ref (a 0)), (1, .int g)] := hl
  refine lv_iload_n S.1 S.2.1 dX4_norm_0 rfl (lv_at hl 1 rfl) ?_
  refine x_Si (As := [.int g]) (rest := []) S w (goodS lk_RX4_145 lt_X4_isAge ln_RX4 lc_X4_isAge) hd_X4_isAge (k_X4_isAge l _ _ (xW cI cO a s f R) g) rfl ⟨(Nat.le_of_ble_eq_true rfl), (Nat.le_of_ble_eq_true rfl)⟩ ⟨rfl, rfl⟩ hl.1 rfl (Nat.le_of_ble_eq_true rfl) ⟨Nat.zero_le _, Nat.zero_le _⟩ dX4_norm_1 (fun H locs (w : Wd D (kT cI cO) (va_A _ _) _ _ (xW cI cO a s f R) H locs) => ?_)
  refine x_eqi (x := o_X4_isAge g) (y := wIn g 0 4) rfl ?_
  refine lv_if_ne (tgt := 10) S.1 S.2.1 dX4_norm_4 (by decide) (fun (c_1 : ¬ (wIn g 0 4) = 0) => ?_) (fun (c_1 : (wIn g 0 4) = 0) => ?_)
  · have hg := wIn_ix (n := 4) (by decide) rfl c_1
    refine lv_aload_n S.1 S.2.1 dX4_norm_10 rfl (lv_at hl 0 rfl) ?_
    refine xr_3 S w lk_RX4_26 dX4_norm_11 ?_
    refine lv_iload_n S.1 S.2.1 dX4_norm_14 rfl (lv_at hl 1 rfl) ?_
    refine x_Vi (As := [.int g]) (rest := []) S w (goodV lk_RX4_148 li_X1_reaches ls_X1_reaches ln_RX1 lc_X1_reaches) hV_X1_reaches (k_X1_reaches l D cI cO a R s f g) rfl 3 1 rfl rfl xc_3 ⟨(Nat.le_of_ble_eq_true rfl), (Nat.le_of_ble_eq_true rfl)⟩ ⟨rfl, rfl⟩ hl.1 rfl (Nat.le_of_ble_eq_true rfl) ⟨Nat.zero_le _, Nat.zero_le _⟩ dX4_norm_15 (fun H locs (w : Wd D (kT cI cO) (va_A _ _) _ _ (xW cI cO a s f R) H locs) => ?_)
    refine lv_if_eq (tgt := 40) S.1 S.2.1 dX4_norm_18 (by decide) (fun (c_2 : (o_X1_reaches s f g) = 0) => ?_) (fun (c_2 : ¬ ((o_X1_reaches s f g) = 0)) => ?_)
    · refine x_ldc S lk_RX4_129 dX4_norm_40 ?_
      exact x_reti S w hr hlk dX4_norm_42 (show (-2000000004) = o_X4_norm s f g from by simp only [o_X4_norm, if_neg c_1, if_pos c_2]) (show xW cI cO a s f R = xW cI cO a s f R from rfl)
    · have hlt := rch_lt hK hK2 hg.2 (by have := hg.1; omega) c_2
      refine lv_aload_n S.1 S.2.1 dX4_norm_21 rfl (lv_at hl 0 rfl) ?_
      refine xr_3 S w lk_RX4_26 dX4_norm_22 ?_
      refine xr_12 S w lk_RX4_155 dX4_norm_25 ?_
      refine lv_aload_n S.1 S.2.1 dX4_norm_28 rfl (lv_at hl 0 rfl) ?_
      refine xr_3 S w lk_RX4_26 dX4_norm_29 ?_
      refine lv_iload_n S.1 S.2.1 dX4_norm_32 rfl (lv_at hl 1 rfl) ?_
      refine x_Vi (As := [.int g]) (rest := [.ref (a 12)]) S w (goodV lk_RX4_158 li_X1_slot ls_X1_slot ln_RX1 lc_X1_slot) hV_X1_slot (k_X1_slot l D cI cO a R s f K (Int32.toNatClampNeg g) g hK hK2 hg.2 hlt) rfl 3 1 rfl rfl xc_3 ⟨(Nat.le_of_ble_eq_true rfl), (Nat.le_of_ble_eq_true rfl)⟩ ⟨rfl, rfl⟩ hl.1 rfl (Nat.le_of_ble_eq_true rfl) ⟨Nat.zero_le _, Nat.zero_le _⟩ dX4_norm_33 (fun H locs (w : Wd D (kT cI cO) (va_A _ _) _ _ (xW cI cO a s f R) H locs) => ?_)
      refine x_eqi (x := o_X1_slot s f g) (y := nI (slt (s 19) g)) rfl ?_
      refine x_iald S w 12 0 (g := f 7) (v := (f 7) (slt (s 19) g)) (slt (s 19) g) (slt_lt _ _) (rfl) (Nat.le_of_ble_eq_true rfl) (xc_12) rfl (rfl) dX4_norm_36 ?_
      refine lv_goto (tgt := 42) S.1 S.2.1 dX4_norm_37 (by decide) ?_
      exact x_reti S w hr hlk dX4_norm_42 (show (f 7) (slt (s 19) g) = o_X4_norm s f g from by simp only [o_X4_norm, if_neg c_1, if_neg c_2]) (show xW cI cO a s f R = xW cI cO a s f R from rfl)
  · refine x_ldc S lk_RX4_64 dX4_norm_7 ?_
    exact x_reti S w hr hlk dX4_norm_9 (show (-2000000001) = o_X4_norm s f g from by simp only [o_X4_norm, if_pos c_1]) (show xW cI cO a s f R = xW cI cO a s f R from rfl)
def o_X4_shift (s : Nat → Int32) (f : Nat → Nat → Int32) (g : Int32) : Int32 := if (wIn g 0 4) = 0 then (-2000000001) else if (o_X1_reaches s f g) = 0 then (-2000000004) else (f 8) (slt (s 19) g)
set_option maxHeartbeats 4000000 in
set_option maxRecDepth 100000 in
theorem k_X4_shift (l : Launch) (D : va_G) (cI cO : ClassId) (a : Nat → Nat) (R : va_W) (s : Nat → Int32) (f : Nat → Nat → Int32) (K : Nat) (g : Int32) (hK : s 19 = nI K) (hK2 : K < 1000000) : Mi l yX4_shift cX4_shift 2 (some .int) { frames := 2, cells := 0, slots := 0, locals := 43 } D (kT cI cO) (xW cI cO a s f R) [.ref (a 0), .int g] (xW cI cO a s f R) (o_X4_shift s f g) := by
  intro sz
  refine ent (by decide +kernel) (Nat.le_of_ble_eq_true rfl) ?_
  intro p e st m below meth c ls S hr hlk hnm w hsz hl
  have hl : lv_has ls 2 [(0, .ref (a 0)), (1, .int g)] := hl
  refine lv_iload_n S.1 S.2.1 dX4_shift_0 rfl (lv_at hl 1 rfl) ?_
  refine x_Si (As := [.int g]) (rest := []) S w (goodS lk_RX4_145 lt_X4_isAge ln_RX4 lc_X4_isAge) hd_X4_isAge (k_X4_isAge l _ _ (xW cI cO a s f R) g) rfl ⟨(Nat.le_of_ble_eq_true rfl), (Nat.le_of_ble_eq_true rfl)⟩ ⟨rfl, rfl⟩ hl.1 rfl (Nat.le_of_ble_eq_true rfl) ⟨Nat.zero_le _, Nat.zero_le _⟩ dX4_shift_1 (fun H locs (w : Wd D (kT cI cO) (va_A _ _) _ _ (xW cI cO a s f R) H locs) => ?_)
  refine x_eqi (x := o_X4_isAge g) (y := wIn g 0 4) rfl ?_
  refine lv_if_ne (tgt := 10) S.1 S.2.1 dX4_shift_4 (by decide) (fun (c_1 : ¬ (wIn g 0 4) = 0) => ?_) (fun (c_1 : (wIn g 0 4) = 0) => ?_)
  · have hg := wIn_ix (n := 4) (by decide) rfl c_1
    refine lv_aload_n S.1 S.2.1 dX4_shift_10 rfl (lv_at hl 0 rfl) ?_
    refine xr_3 S w lk_RX4_26 dX4_shift_11 ?_
    refine lv_iload_n S.1 S.2.1 dX4_shift_14 rfl (lv_at hl 1 rfl) ?_
    refine x_Vi (As := [.int g]) (rest := []) S w (goodV lk_RX4_148 li_X1_reaches ls_X1_reaches ln_RX1 lc_X1_reaches) hV_X1_reaches (k_X1_reaches l D cI cO a R s f g) rfl 3 1 rfl rfl xc_3 ⟨(Nat.le_of_ble_eq_true rfl), (Nat.le_of_ble_eq_true rfl)⟩ ⟨rfl, rfl⟩ hl.1 rfl (Nat.le_of_ble_eq_true rfl) ⟨Nat.zero_le _, Nat.zero_le _⟩ dX4_shift_15 (fun H locs (w : Wd D (kT cI cO) (va_A _ _) _ _ (xW cI cO a s f R) H locs) => ?_)
    refine lv_if_eq (tgt := 40) S.1 S.2.1 dX4_shift_18 (by decide) (fun (c_2 : (o_X1_reaches s f g) = 0) => ?_) (fun (c_2 : ¬ ((o_X1_reaches s f g) = 0)) => ?_)
    · refine x_ldc S lk_RX4_129 dX4_shift_40 ?_
      exact x_reti S w hr hlk dX4_shift_42 (show (-2000000004) = o_X4_shift s f g from by simp only [o_X4_shift, if_neg c_1, if_pos c_2]) (show xW cI cO a s f R = xW cI cO a s f R from rfl)
    · have hlt := rch_lt hK hK2 hg.2 (by have := hg.1; omega) c_2
      refine lv_aload_n S.1 S.2.1 dX4_shift_21 rfl (lv_at hl 0 rfl) ?_
      refine xr_3 S w lk_RX4_26 dX4_shift_22 ?_
      refine xr_13 S w lk_RX4_162 dX4_shift_25 ?_
      refine lv_aload_n S.1 S.2.1 dX4_shift_28 rfl (lv_at hl 0 rfl) ?_
      refine xr_3 S w lk_RX4_26 dX4_shift_29 ?_
      refine lv_iload_n S.1 S.2.1 dX4_shift_32 rfl (lv_at hl 1 rfl) ?_
      refine x_Vi (As := [.int g]) (rest := [.ref (a 13)]) S w (goodV lk_RX4_158 li_X1_slot ls_X1_slot ln_RX1 lc_X1_slot) hV_X1_slot (k_X1_slot l D cI cO a R s f K (Int32.toNatClampNeg g) g hK hK2 hg.2 hlt) rfl 3 1 rfl rfl xc_3 ⟨(Nat.le_of_ble_eq_true rfl), (Nat.le_of_ble_eq_true rfl)⟩ ⟨rfl, rfl⟩ hl.1 rfl (Nat.le_of_ble_eq_true rfl) ⟨Nat.zero_le _, Nat.zero_le _⟩ dX4_shift_33 (fun H locs (w : Wd D (kT cI cO) (va_A _ _) _ _ (xW cI cO a s f R) H locs) => ?_)
      refine x_eqi (x := o_X1_slot s f g) (y := nI (slt (s 19) g)) rfl ?_
      refine x_iald S w 13 0 (g := f 8) (v := (f 8) (slt (s 19) g)) (slt (s 19) g) (slt_lt _ _) (rfl) (Nat.le_of_ble_eq_true rfl) (xc_13) rfl (rfl) dX4_shift_36 ?_
      refine lv_goto (tgt := 42) S.1 S.2.1 dX4_shift_37 (by decide) ?_
      exact x_reti S w hr hlk dX4_shift_42 (show (f 8) (slt (s 19) g) = o_X4_shift s f g from by simp only [o_X4_shift, if_neg c_1, if_neg c_2]) (show xW cI cO a s f R = xW cI cO a s f R from rfl)
  · refine x_ldc S lk_RX4_64 dX4_shift_7 ?_
    exact x_reti S w hr hlk dX4_shift_9 (show (-2000000001) = o_X4_shift s f g from by simp only [o_X4_shift, if_pos c_1]) (show xW cI cO a s f R = xW cI cO a s f R from rfl)
def o_X4_rawAt (s : Nat → Int32) (f : Nat → Nat → Int32) (N : Nat) (k : Int32) : Int32 := (f 3) (rix N k)
set_option maxHeartbeats 4000000 in
set_option maxRecDepth 100000 in
theorem k_X4_rawAt (l : Launch) (D : va_G) (cI cO : ClassId) (a : Nat → Nat) (R : va_W) (s : Nat → Int32) (f : Nat → Nat → Int32) (N : Nat) (k : Int32) (hN : s 0 = nI N) (h4 : 4 ≤ N) (h48 : N ≤ 48) : Mi l yX4_rawAt cX4_rawAt 2 (some .int) { frames := 1, cells := 0, slots := 0, locals := 15 } D (kT cI cO) (xW cI cO a s f R) [.ref (a 0), .int k] (xW cI cO a s f R) (o_X4_rawAt s f N k) := by
  intro sz
  refine ent (by decide +kernel) (Nat.le_of_ble_eq_true rfl) ?_
  intro p e st m below meth c ls S hr hlk hnm w hsz hl
  have hl : lv_has ls 2 [(0, .ref (a 0)), (1, .int k)] := hl
  refine lv_aload_n S.1 S.2.1 dX4_rawAt_0 rfl (lv_at hl 0 rfl) ?_
  refine xr_8 S w lk_RX4_47 dX4_rawAt_1 ?_
  refine lv_iconst (v := 0) S.1 S.2.1 dX4_rawAt_4 (by decide) ?_
  refine lv_aload_n S.1 S.2.1 dX4_rawAt_5 rfl (lv_at hl 0 rfl) ?_
  refine xr_1 S w lk_RX4_10 dX4_rawAt_6 ?_
  refine xg_0 S w lk_RX4_65 dX4_rawAt_9 ?_
  refine x_eqi (x := s 0) (y := nI N) (hN) ?_
  refine lv_iconst (v := 1) S.1 S.2.1 dX4_rawAt_12 (by decide) ?_
  refine lv_isub S.1 S.2.1 dX4_rawAt_13 ?_
  refine x_eqi (x := (nI N) - 1) (y := nI (N - 1)) (pk_sub (b := 1) (by omega)) ?_
  refine lv_iload_n S.1 S.2.1 dX4_rawAt_14 rfl (lv_at hl 1 rfl) ?_
  refine x_mmin S lk_RX4_271 hl.1 (Nat.le_of_ble_eq_true rfl) (Nat.le_of_ble_eq_true rfl) (Nat.zero_le _) (Nat.zero_le _) (x := nI (N - 1)) (y := k) (v := if k < (nI (N - 1)) then k else (nI (N - 1))) (rfl) dX4_rawAt_15 ?_
  refine x_mmax S lk_RX4_274 hl.1 (Nat.le_of_ble_eq_true rfl) (Nat.le_of_ble_eq_true rfl) (Nat.zero_le _) (Nat.zero_le _) (x := 0) (y := if k < (nI (N - 1)) then k else (nI (N - 1))) (v := nI (rix N k)) (rix_eq h4 h48) dX4_rawAt_18 ?_
  refine x_iald S w 8 0 (g := f 3) (v := (f 3) (rix N k)) (rix N k) (by have := rix_lt (k := k) h4 h48; omega) (rfl) (Nat.le_of_ble_eq_true rfl) (xc_8) rfl (rfl) dX4_rawAt_21 ?_
  exact x_reti S w hr hlk dX4_rawAt_22 (show (f 3) (rix N k) = o_X4_rawAt s f N k from by simp only [o_X4_rawAt]) (show xW cI cO a s f R = xW cI cO a s f R from rfl)
def o_X0_remember (s : Nat → Int32) (f : Nat → Nat → Int32) (q : Int32) (b : Int32) : (Nat → Int32) × (Nat → Nat → Int32) := (upd (upd (upd s 20 1) 21 q) 22 b, va_up f 9 (va_cpy (f 1) (f 9) 0 0 48))
set_option maxHeartbeats 4000000 in
set_option maxRecDepth 100000 in
theorem k_X0_remember (l : Launch) (D : va_G) (cI cO : ClassId) (a : Nat → Nat) (R : va_W) (s : Nat → Int32) (f : Nat → Nat → Int32) (q : Int32) (b : Int32) : Mv l yX0_remember cX0_remember 4 none { frames := 1, cells := 0, slots := 0, locals := 40 } D (kT cI cO) (xW cI cO a s f R) [.ref (a 4), .int q, .int b, .ref (a 6)] (xW cI cO a (o_X0_remember s f q b).1 (o_X0_remember s f q b).2 R) := by
  intro sz
  refine ent (by decide +kernel) (Nat.le_of_ble_eq_true rfl) ?_
  intro p e st m below meth c ls S hr hlk hnm w hsz hl
  have hl : lv_has ls 4 [(0, .ref (a 4)), (1, .int q), (2, .int b), (3, .ref (a 6))] := hl
  refine lv_aload_n S.1 S.2.1 dX0_remember_0 rfl (lv_at hl 0 rfl) ?_
  refine lv_iconst (v := 1) S.1 S.2.1 dX0_remember_1 (by decide) ?_
  refine xp_20 S w (Or.inr rfl) lk_RX0_15 dX0_remember_2 (fun H locs (w : Wd D (kT cI cO) (va_A _ _) _ _ (xW cI cO a (upd s 20 1) f R) H locs) => ?_)
  refine lv_aload_n S.1 S.2.1 dX0_remember_5 rfl (lv_at hl 0 rfl) ?_
  refine lv_iload_n S.1 S.2.1 dX0_remember_6 rfl (lv_at hl 1 rfl) ?_
  refine xp_21 S w lk_RX0_19 dX0_remember_7 (fun H locs (w : Wd D (kT cI cO) (va_A _ _) _ _ (xW cI cO a (upd (upd s 20 1) 21 q) f R) H locs) => ?_)
  refine lv_aload_n S.1 S.2.1 dX0_remember_10 rfl (lv_at hl 0 rfl) ?_
  refine lv_iload_n S.1 S.2.1 dX0_remember_11 rfl (lv_at hl 2 rfl) ?_
  refine xp_22 S w lk_RX0_23 dX0_remember_12 (fun H locs (w : Wd D (kT cI cO) (va_A _ _) _ _ (xW cI cO a (upd (upd (upd s 20 1) 21 q) 22 b) f R) H locs) => ?_)
  refine lv_aload_n S.1 S.2.1 dX0_remember_15 rfl (lv_at hl 3 rfl) ?_
  refine lv_iconst (v := 0) S.1 S.2.1 dX0_remember_16 (by decide) ?_
  refine lv_aload_n S.1 S.2.1 dX0_remember_17 rfl (lv_at hl 0 rfl) ?_
  refine xr_14 S w lk_RX0_9 dX0_remember_18 ?_
  refine lv_iconst (v := 0) S.1 S.2.1 dX0_remember_21 (by decide) ?_
  refine lv_bipush (v := 48) S.1 S.2.1 dX0_remember_22 (by decide) ?_
  refine x_copy S w lk_RX0_26 hl.1 6 14 0 (f := f 1) (g := f 9) (xc_6) (xc_14) rfl 48 (rfl) (by decide) (by decide) (Nat.le_of_ble_eq_true rfl) (Nat.le_of_ble_eq_true rfl) (Nat.le_of_ble_eq_true rfl) xs_9 dX0_remember_24 (fun H locs (w : Wd D (kT cI cO) (va_A _ _) _ _ (xW cI cO a (upd (upd (upd s 20 1) 21 q) 22 b) (va_up f 9 (va_cpy (f 1) (f 9) 0 0 48)) R) H locs) => ?_)
  exact x_retv S w hr hlk dX0_remember_27 (show xW cI cO a (upd (upd (upd s 20 1) 21 q) 22 b) (va_up f 9 (va_cpy (f 1) (f 9) 0 0 48)) R = xW cI cO a (o_X0_remember s f q b).1 (o_X0_remember s f q b).2 R from by simp only [o_X0_remember])
def o_X4_judge (s : Nat → Int32) (f : Nat → Nat → Int32) (q : Int32) : (Nat → Int32) × (Nat → Nat → Int32) := if (s 20) = 0 then (upd (upd (upd (upd s 20 1) 21 q) 22 ((s 13) - 1)) 16 0, va_up f 9 (va_cpy (f 1) (f 9) 0 0 48)) else if (s 21) ≤ q then if q ≤ (s 21) then (upd s 16 0, f) else (upd s 16 ((s 16) + 1), f) else (upd (upd (upd (upd s 20 1) 21 q) 22 ((s 13) - 1)) 16 0, va_up f 9 (va_cpy (f 1) (f 9) 0 0 48))
set_option maxHeartbeats 4000000 in
set_option maxRecDepth 100000 in
theorem k_X4_judge (l : Launch) (D : va_G) (cI cO : ClassId) (a : Nat → Nat) (R : va_W) (s : Nat → Int32) (f : Nat → Nat → Int32) (q : Int32) : Mv l yX4_judge cX4_judge 2 none { frames := 2, cells := 0, slots := 0, locals := 63 } D (kT cI cO) (xW cI cO a s f R) [.ref (a 0), .int q] (xW cI cO a (o_X4_judge s f q).1 (o_X4_judge s f q).2 R) := by
  intro sz
  refine ent (by decide +kernel) (Nat.le_of_ble_eq_true rfl) ?_
  intro p e st m below meth c ls S hr hlk hnm w hsz hl
  have hl : lv_has ls 2 [(0, .ref (a 0)), (1, .int q)] := hl
  refine lv_aload_n S.1 S.2.1 dX4_judge_0 rfl (lv_at hl 0 rfl) ?_
  refine xr_4 S w lk_RX4_33 dX4_judge_1 ?_
  refine xg_20 S w lk_RX4_177 dX4_judge_4 ?_
  refine lv_if_eq (tgt := 21) S.1 S.2.1 dX4_judge_7 (by decide) (fun (c_1 : (s 20) = 0) => ?_) (fun (c_1 : ¬ ((s 20) = 0)) => ?_)
  · refine lv_aload_n S.1 S.2.1 dX4_judge_21 rfl (lv_at hl 0 rfl) ?_
    refine xr_4 S w lk_RX4_33 dX4_judge_22 ?_
    refine lv_iload_n S.1 S.2.1 dX4_judge_25 rfl (lv_at hl 1 rfl) ?_
    refine lv_aload_n S.1 S.2.1 dX4_judge_26 rfl (lv_at hl 0 rfl) ?_
    refine xg_13 S w lk_RX4_119 dX4_judge_27 ?_
    refine lv_iconst (v := 1) S.1 S.2.1 dX4_judge_30 (by decide) ?_
    refine lv_isub S.1 S.2.1 dX4_judge_31 ?_
    refine lv_aload_n S.1 S.2.1 dX4_judge_32 rfl (lv_at hl 0 rfl) ?_
    refine xr_6 S w lk_RX4_41 dX4_judge_33 ?_
    refine x_Vv (As := [.int q, .int ((s 13) - 1), .ref (a 6)]) (rest := []) S w (goodV lk_RX4_276 li_X0_remember ls_X0_remember ln_RX0 lc_X0_remember) hV_X0_remember (k_X0_remember l D cI cO a R s f q ((s 13) - 1)) rfl 4 0 rfl rfl xc_4 ⟨(Nat.le_of_ble_eq_true rfl), (Nat.le_of_ble_eq_true rfl)⟩ ⟨rfl, rfl⟩ hl.1 rfl (Nat.le_of_ble_eq_true rfl) ⟨Nat.zero_le _, Nat.zero_le _⟩ dX4_judge_36 (fun H locs (w : Wd D (kT cI cO) (va_A _ _) _ _ (xW cI cO a (upd (upd (upd s 20 1) 21 q) 22 ((s 13) - 1)) (va_up f 9 (va_cpy (f 1) (f 9) 0 0 48)) R) H locs) => ?_)
    refine lv_aload_n S.1 S.2.1 dX4_judge_39 rfl (lv_at hl 0 rfl) ?_
    refine lv_iconst (v := 0) S.1 S.2.1 dX4_judge_40 (by decide) ?_
    refine xp_16 S w lk_RX4_142 dX4_judge_41 (fun H locs (w : Wd D (kT cI cO) (va_A _ _) _ _ (xW cI cO a (upd (upd (upd (upd s 20 1) 21 q) 22 ((s 13) - 1)) 16 0) (va_up f 9 (va_cpy (f 1) (f 9) 0 0 48)) R) H locs) => ?_)
    refine lv_goto (tgt := 76) S.1 S.2.1 dX4_judge_44 (by decide) ?_
    exact x_retv S w hr hlk dX4_judge_76 (show xW cI cO a (upd (upd (upd (upd s 20 1) 21 q) 22 ((s 13) - 1)) 16 0) (va_up f 9 (va_cpy (f 1) (f 9) 0 0 48)) R = xW cI cO a (o_X4_judge s f q).1 (o_X4_judge s f q).2 R from by simp only [o_X4_judge, if_pos c_1])
  · refine lv_iload_n S.1 S.2.1 dX4_judge_10 rfl (lv_at hl 1 rfl) ?_
    refine lv_aload_n S.1 S.2.1 dX4_judge_11 rfl (lv_at hl 0 rfl) ?_
    refine xr_4 S w lk_RX4_33 dX4_judge_12 ?_
    refine xg_21 S w lk_RX4_180 dX4_judge_15 ?_
    refine lv_icmp_ge (tgt := 47) S.1 S.2.1 dX4_judge_18 (by decide) (fun (c_2 : (s 21) ≤ q) => ?_) (fun (c_2 : ¬ ((s 21) ≤ q)) => ?_)
    · refine lv_iload_n S.1 S.2.1 dX4_judge_47 rfl (lv_at hl 1 rfl) ?_
      refine lv_aload_n S.1 S.2.1 dX4_judge_48 rfl (lv_at hl 0 rfl) ?_
      refine xr_4 S w lk_RX4_33 dX4_judge_49 ?_
      refine xg_21 S w lk_RX4_180 dX4_judge_52 ?_
      refine lv_icmp_le (tgt := 71) S.1 S.2.1 dX4_judge_55 (by decide) (fun (c_3 : q ≤ (s 21)) => ?_) (fun (c_3 : ¬ (q ≤ (s 21))) => ?_)
      · refine lv_aload_n S.1 S.2.1 dX4_judge_71 rfl (lv_at hl 0 rfl) ?_
        refine lv_iconst (v := 0) S.1 S.2.1 dX4_judge_72 (by decide) ?_
        refine xp_16 S w lk_RX4_142 dX4_judge_73 (fun H locs (w : Wd D (kT cI cO) (va_A _ _) _ _ (xW cI cO a (upd s 16 0) f R) H locs) => ?_)
        exact x_retv S w hr hlk dX4_judge_76 (show xW cI cO a (upd s 16 0) f R = xW cI cO a (o_X4_judge s f q).1 (o_X4_judge s f q).2 R from by simp only [o_X4_judge, if_neg c_1, if_pos c_2, if_pos c_3])
      · refine lv_aload_n S.1 S.2.1 dX4_judge_58 rfl (lv_at hl 0 rfl) ?_
        refine lv_dup S.1 S.2.1 dX4_judge_59 rfl ?_
        refine xg_16 S w lk_RX4_142 dX4_judge_60 ?_
        refine lv_iconst (v := 1) S.1 S.2.1 dX4_judge_63 (by decide) ?_
        refine lv_iadd S.1 S.2.1 dX4_judge_64 ?_
        refine xp_16 S w lk_RX4_142 dX4_judge_65 (fun H locs (w : Wd D (kT cI cO) (va_A _ _) _ _ (xW cI cO a (upd s 16 ((s 16) + 1)) f R) H locs) => ?_)
        refine lv_goto (tgt := 76) S.1 S.2.1 dX4_judge_68 (by decide) ?_
        exact x_retv S w hr hlk dX4_judge_76 (show xW cI cO a (upd s 16 ((s 16) + 1)) f R = xW cI cO a (o_X4_judge s f q).1 (o_X4_judge s f q).2 R from by simp only [o_X4_judge, if_neg c_1, if_pos c_2, if_neg c_3])
    · refine lv_aload_n S.1 S.2.1 dX4_judge_21 rfl (lv_at hl 0 rfl) ?_
      refine xr_4 S w lk_RX4_33 dX4_judge_22 ?_
      refine lv_iload_n S.1 S.2.1 dX4_judge_25 rfl (lv_at hl 1 rfl) ?_
      refine lv_aload_n S.1 S.2.1 dX4_judge_26 rfl (lv_at hl 0 rfl) ?_
      refine xg_13 S w lk_RX4_119 dX4_judge_27 ?_
      refine lv_iconst (v := 1) S.1 S.2.1 dX4_judge_30 (by decide) ?_
      refine lv_isub S.1 S.2.1 dX4_judge_31 ?_
      refine lv_aload_n S.1 S.2.1 dX4_judge_32 rfl (lv_at hl 0 rfl) ?_
      refine xr_6 S w lk_RX4_41 dX4_judge_33 ?_
      refine x_Vv (As := [.int q, .int ((s 13) - 1), .ref (a 6)]) (rest := []) S w (goodV lk_RX4_276 li_X0_remember ls_X0_remember ln_RX0 lc_X0_remember) hV_X0_remember (k_X0_remember l D cI cO a R s f q ((s 13) - 1)) rfl 4 0 rfl rfl xc_4 ⟨(Nat.le_of_ble_eq_true rfl), (Nat.le_of_ble_eq_true rfl)⟩ ⟨rfl, rfl⟩ hl.1 rfl (Nat.le_of_ble_eq_true rfl) ⟨Nat.zero_le _, Nat.zero_le _⟩ dX4_judge_36 (fun H locs (w : Wd D (kT cI cO) (va_A _ _) _ _ (xW cI cO a (upd (upd (upd s 20 1) 21 q) 22 ((s 13) - 1)) (va_up f 9 (va_cpy (f 1) (f 9) 0 0 48)) R) H locs) => ?_)
      refine lv_aload_n S.1 S.2.1 dX4_judge_39 rfl (lv_at hl 0 rfl) ?_
      refine lv_iconst (v := 0) S.1 S.2.1 dX4_judge_40 (by decide) ?_
      refine xp_16 S w lk_RX4_142 dX4_judge_41 (fun H locs (w : Wd D (kT cI cO) (va_A _ _) _ _ (xW cI cO a (upd (upd (upd (upd s 20 1) 21 q) 22 ((s 13) - 1)) 16 0) (va_up f 9 (va_cpy (f 1) (f 9) 0 0 48)) R) H locs) => ?_)
      refine lv_goto (tgt := 76) S.1 S.2.1 dX4_judge_44 (by decide) ?_
      exact x_retv S w hr hlk dX4_judge_76 (show xW cI cO a (upd (upd (upd (upd s 20 1) 21 q) 22 ((s 13) - 1)) 16 0) (va_up f 9 (va_cpy (f 1) (f 9) 0 0 48)) R = xW cI cO a (o_X4_judge s f q).1 (o_X4_judge s f q).2 R from by simp only [o_X4_judge, if_neg c_1, if_neg c_2])
def o_X4_fallBack (s : Nat → Int32) (f : Nat → Nat → Int32) : (Nat → Int32) × (Nat → Nat → Int32) := (upd (upd (upd s 1 ((s 1) / 2)) 16 0) 15 ((s 15) + 1), va_up f 1 (va_cpy (f 9) (f 1) 0 0 48))
set_option maxHeartbeats 4000000 in
set_option maxRecDepth 100000 in
theorem k_X4_fallBack (l : Launch) (D : va_G) (cI cO : ClassId) (a : Nat → Nat) (R : va_W) (s : Nat → Int32) (f : Nat → Nat → Int32) : Mv l yX4_fallBack cX4_fallBack 1 none { frames := 1, cells := 0, slots := 0, locals := 40 } D (kT cI cO) (xW cI cO a s f R) [.ref (a 0)] (xW cI cO a (o_X4_fallBack s f).1 (o_X4_fallBack s f).2 R) := by
  intro sz
  refine ent (by decide +kernel) (Nat.le_of_ble_eq_true rfl) ?_
  intro p e st m below meth c ls S hr hlk hnm w hsz hl
  have hl : lv_has ls 1 [(0, .ref (a 0))] := hl
  refine lv_aload_n S.1 S.2.1 dX4_fallBack_0 rfl (lv_at hl 0 rfl) ?_
  refine xr_4 S w lk_RX4_33 dX4_fallBack_1 ?_
  refine xr_14 S w lk_RX4_186 dX4_fallBack_4 ?_
  refine lv_iconst (v := 0) S.1 S.2.1 dX4_fallBack_7 (by decide) ?_
  refine lv_aload_n S.1 S.2.1 dX4_fallBack_8 rfl (lv_at hl 0 rfl) ?_
  refine xr_6 S w lk_RX4_41 dX4_fallBack_9 ?_
  refine lv_iconst (v := 0) S.1 S.2.1 dX4_fallBack_12 (by decide) ?_
  refine lv_bipush (v := 48) S.1 S.2.1 dX4_fallBack_13 (by decide) ?_
  refine x_copy S w lk_RX4_280 hl.1 14 6 0 (f := f 9) (g := f 1) (xc_14) (xc_6) rfl 48 (rfl) (by decide) (by decide) (Nat.le_of_ble_eq_true rfl) (Nat.le_of_ble_eq_true rfl) (Nat.le_of_ble_eq_true rfl) xs_1 dX4_fallBack_15 (fun H locs (w : Wd D (kT cI cO) (va_A _ _) _ _ (xW cI cO a s (va_up f 1 (va_cpy (f 9) (f 1) 0 0 48)) R) H locs) => ?_)
  refine lv_aload_n S.1 S.2.1 dX4_fallBack_18 rfl (lv_at hl 0 rfl) ?_
  refine xr_1 S w lk_RX4_10 dX4_fallBack_19 ?_
  refine lv_dup S.1 S.2.1 dX4_fallBack_22 rfl ?_
  refine xg_1 S w lk_RX4_76 dX4_fallBack_23 ?_
  refine lv_iconst (v := 2) S.1 S.2.1 dX4_fallBack_26 (by decide) ?_
  refine lv_idiv S.1 S.2.1 dX4_fallBack_27 (by decide) ?_
  refine xp_1 S w lk_RX4_76 dX4_fallBack_28 (fun H locs (w : Wd D (kT cI cO) (va_A _ _) _ _ (xW cI cO a (upd s 1 ((s 1) / 2)) (va_up f 1 (va_cpy (f 9) (f 1) 0 0 48)) R) H locs) => ?_)
  refine lv_aload_n S.1 S.2.1 dX4_fallBack_31 rfl (lv_at hl 0 rfl) ?_
  refine lv_iconst (v := 0) S.1 S.2.1 dX4_fallBack_32 (by decide) ?_
  refine xp_16 S w lk_RX4_142 dX4_fallBack_33 (fun H locs (w : Wd D (kT cI cO) (va_A _ _) _ _ (xW cI cO a (upd (upd s 1 ((s 1) / 2)) 16 0) (va_up f 1 (va_cpy (f 9) (f 1) 0 0 48)) R) H locs) => ?_)
  refine lv_aload_n S.1 S.2.1 dX4_fallBack_36 rfl (lv_at hl 0 rfl) ?_
  refine lv_dup S.1 S.2.1 dX4_fallBack_37 rfl ?_
  refine xg_15 S w lk_RX4_139 dX4_fallBack_38 ?_
  refine x_eqi (x := (upd (upd s 1 ((s 1) / 2)) 16 0) 15) (y := s 15) rfl ?_
  refine lv_iconst (v := 1) S.1 S.2.1 dX4_fallBack_41 (by decide) ?_
  refine lv_iadd S.1 S.2.1 dX4_fallBack_42 ?_
  refine xp_15 S w lk_RX4_139 dX4_fallBack_43 (fun H locs (w : Wd D (kT cI cO) (va_A _ _) _ _ (xW cI cO a (upd (upd (upd s 1 ((s 1) / 2)) 16 0) 15 ((s 15) + 1)) (va_up f 1 (va_cpy (f 9) (f 1) 0 0 48)) R) H locs) => ?_)
  exact x_retv S w hr hlk dX4_fallBack_46 (show xW cI cO a (upd (upd (upd s 1 ((s 1) / 2)) 16 0) 15 ((s 15) + 1)) (va_up f 1 (va_cpy (f 9) (f 1) 0 0 48)) R = xW cI cO a (o_X4_fallBack s f).1 (o_X4_fallBack s f).2 R from by simp only [o_X4_fallBack])
def o_X4_limitTo (v : Int64) (q : Int32) : Int32 := Int64.toInt32 (lmax (Int32.toInt64 (-q)) (lmin (Int32.toInt64 q) v))
set_option maxHeartbeats 4000000 in
set_option maxRecDepth 100000 in
theorem k_X4_limitTo (l : Launch) (D : va_G) (tys : List (ClassId × FieldType)) (ws : va_W) (v : Int64) (q : Int32) : Mi l yX4_limitTo cX4_limitTo 3 (some .int) { frames := 1, cells := 0, slots := 0, locals := 17 } D tys ws [.long v, .int q] ws (o_X4_limitTo v q) := by
  intro sz
  refine ent (by decide +kernel) (Nat.le_of_ble_eq_true rfl) ?_
  intro p e st m below meth c ls S hr hlk hnm w hsz hl
  have hl : lv_has ls 3 [(0, .long v), (2, .int q)] := hl
  refine lv_iload_n S.1 S.2.1 dX4_limitTo_0 rfl (lv_at hl 1 rfl) ?_
  refine lv_ineg S.1 S.2.1 dX4_limitTo_1 ?_
  refine lv_i2l S.1 S.2.1 dX4_limitTo_2 rfl ?_
  refine lv_iload_n S.1 S.2.1 dX4_limitTo_3 rfl (lv_at hl 1 rfl) ?_
  refine lv_i2l S.1 S.2.1 dX4_limitTo_4 rfl ?_
  refine lv_lload_n S.1 S.2.1 dX4_limitTo_5 rfl (lv_at hl 0 rfl) ?_
  refine x_mminl S lk_RX4_216 hl.1 (Nat.le_of_ble_eq_true rfl) (Nat.le_of_ble_eq_true rfl) (Nat.zero_le _) (Nat.zero_le _) dX4_limitTo_6 ?_
  refine x_mmaxl S lk_RX4_220 hl.1 (Nat.le_of_ble_eq_true rfl) (Nat.le_of_ble_eq_true rfl) (Nat.zero_le _) (Nat.zero_le _) dX4_limitTo_9 ?_
  refine lv_l2i S.1 S.2.1 dX4_limitTo_12 rfl ?_
  exact x_reti S w hr hlk dX4_limitTo_13 (show Int64.toInt32 (lmax (Int32.toInt64 (-q)) (lmin (Int32.toInt64 q) v)) = o_X4_limitTo v q from by simp only [o_X4_limitTo]) (show ws = ws from rfl)
def o_J9_floorDiv_f86c9 (x : Int64) (y : Int64) : Int64 := if 0 ≤ (x ^^^ y) then x / y else if ((x / y) * y) = x then x / y else (x / y) - 1
set_option maxHeartbeats 4000000 in
set_option maxRecDepth 100000 in
theorem k_J9_floorDiv_f86c9 (l : Launch) (D : va_G) (tys : List (ClassId × FieldType)) (ws : va_W) (x : Int64) (y : Int64) (hy : ¬ y = 0) : Ml l yJ9_floorDiv_f86c9 cJ9_floorDiv_f86c9 6 (some .long) { frames := 0, cells := 0, slots := 0, locals := 0 } D tys ws [.long x, .long y] ws (o_J9_floorDiv_f86c9 x y) := by
  intro sz
  refine ent (by decide +kernel) (Nat.le_of_ble_eq_true rfl) ?_
  intro p e st m below meth c ls S hr hlk hnm w hsz hl
  have hl : lv_has ls 6 [(0, .long x), (2, .long y)] := hl
  refine lv_lload_n S.1 S.2.1 dJ9_floorDiv_f86c9_0 rfl (lv_at hl 0 rfl) ?_
  refine lv_lload_n S.1 S.2.1 dJ9_floorDiv_f86c9_1 rfl (lv_at hl 1 rfl) ?_
  refine lv_ldiv S.1 S.2.1 dJ9_floorDiv_f86c9_2 (hy) ?_
  refine lv_lstore (lv' := [(4, .long (x / y)), (0, .long x), (2, .long y)]) S.1 S.2.1 dJ9_floorDiv_f86c9_3 hl (by decide) rfl (fun ls hl => ?_)
  refine lv_lload_n S.1 S.2.1 dJ9_floorDiv_f86c9_5 rfl (lv_at hl 1 rfl) ?_
  refine lv_lload_n S.1 S.2.1 dJ9_floorDiv_f86c9_6 rfl (lv_at hl 2 rfl) ?_
  refine lv_lxor S.1 S.2.1 dJ9_floorDiv_f86c9_7 ?_
  refine lv_lconst (v := 0) S.1 S.2.1 dJ9_floorDiv_f86c9_8 (by decide) ?_
  refine x_lif_ge (tgt := 27) S.1 S.2.1 dJ9_floorDiv_f86c9_9 dJ9_floorDiv_f86c9_10 (by decide) (fun (c_1 : 0 ≤ (x ^^^ y)) => ?_) (fun (c_1 : ¬ (0 ≤ (x ^^^ y))) => ?_)
  · refine lv_lload S.1 S.2.1 dJ9_floorDiv_f86c9_27 (lv_at hl 0 rfl) ?_
    exact x_retl S w hr hlk dJ9_floorDiv_f86c9_29 (show x / y = o_J9_floorDiv_f86c9 x y from by simp only [o_J9_floorDiv_f86c9, if_pos c_1]) (show ws = ws from rfl)
  · refine lv_lload S.1 S.2.1 dJ9_floorDiv_f86c9_13 (lv_at hl 0 rfl) ?_
    refine lv_lload_n S.1 S.2.1 dJ9_floorDiv_f86c9_15 rfl (lv_at hl 2 rfl) ?_
    refine lv_lmul S.1 S.2.1 dJ9_floorDiv_f86c9_16 ?_
    refine lv_lload_n S.1 S.2.1 dJ9_floorDiv_f86c9_17 rfl (lv_at hl 1 rfl) ?_
    refine x_lif_eq (tgt := 27) S.1 S.2.1 dJ9_floorDiv_f86c9_18 dJ9_floorDiv_f86c9_19 (by decide) (fun (c_2 : ((x / y) * y) = x) => ?_) (fun (c_2 : ¬ (((x / y) * y) = x)) => ?_)
    · refine lv_lload S.1 S.2.1 dJ9_floorDiv_f86c9_27 (lv_at hl 0 rfl) ?_
      exact x_retl S w hr hlk dJ9_floorDiv_f86c9_29 (show x / y = o_J9_floorDiv_f86c9 x y from by simp only [o_J9_floorDiv_f86c9, if_neg c_1, if_pos c_2]) (show ws = ws from rfl)
    · refine lv_lload S.1 S.2.1 dJ9_floorDiv_f86c9_22 (lv_at hl 0 rfl) ?_
      refine lv_lconst (v := 1) S.1 S.2.1 dJ9_floorDiv_f86c9_24 (by decide) ?_
      refine lv_lsub S.1 S.2.1 dJ9_floorDiv_f86c9_25 ?_
      exact x_retl S w hr hlk dJ9_floorDiv_f86c9_26 (show (x / y) - 1 = o_J9_floorDiv_f86c9 x y from by simp only [o_J9_floorDiv_f86c9, if_neg c_1, if_neg c_2]) (show ws = ws from rfl)
def o_fill0_5 (s : Nat → Int32) (f : Nat → Nat → Int32) : (Nat → Nat → Int32) := va_up f 0 (pfx 48 (fun _ => 0) (f 0))
set_option maxHeartbeats 4000000 in
set_option maxRecDepth 100000 in
theorem j_fill0_5 {p : Program} {e : Env} {st : State} {m : MethodId} {args : Array Value} {below : List Frame} {meth : Method} {c : Code} {ws0 : va_W} {sz : Nat} (l : Launch) (D : va_G) (cI cO : ClassId) (a : Nat → Nat) (R : va_W) (s : Nat → Int32) (f : Nat → Nat → Int32) (S : CallFix p m c cJ7_fill_53178 4 st args wsL_law RJ7) (hr : meth.sig.returnType = none) (hlk : meth.locks = false) : ∀ (n : Nat) (i : Nat) (H : Heap) (locs : List Loc) (ls : Array Slot), 49 ≤ i + n → i ≤ 48 → Wd D (kT cI cO) (va_A ws0 sz) st.heap st (xW cI cO a s (va_up f 0 (pfx i (fun _ => 0) (f 0))) R) H locs → lv_has ls 4 [(0, .ref (a 5)), (1, .int 0), (2, .int (nI i)), (3, .int (nI 48))] → W p l e { frames := 0, cells := 0, slots := 0, locals := 0 } st m args below meth c H locs 0 0 (MQ below (mQv D (kT cI cO) ws0 sz (xW cI cO a s (o_fill0_5 s f) R)) args st 0 0 (va_A ws0 sz)) (F0 m 5 ls []) := by
  intro n
  induction n with
  | zero => intro i H locs ls hfu hi w hl; exact absurd hfu (by omega)
  | succ n ih =>
    intro i H locs ls hfu hi w hl
    refine lv_iload_n S.1 S.2.1 dJ7_fill_53178_5 rfl (lv_at hl 2 rfl) ?_
    refine lv_iload_n S.1 S.2.1 dJ7_fill_53178_6 rfl (lv_at hl 3 rfl) ?_
    refine lv_icmp_ge (tgt := 20) S.1 S.2.1 dJ7_fill_53178_7 (by decide) (fun (c_1 : (nI 48) ≤ (nI i)) => ?_) (fun (c_1 : ¬ ((nI 48) ≤ (nI i))) => ?_)
    · have he : i = 48 := by
        have := (nI_leI (a := 48) (b := i) (by omega) (by omega)).mp c_1
        omega
      subst i
      exact x_retv S w hr hlk dJ7_fill_53178_20 (show xW cI cO a s (va_up f 0 (pfx 48 (fun _ => 0) (f 0))) R = xW cI cO a s (o_fill0_5 s f) R from by simp only [o_fill0_5])
    · have hlt : i < 48 := Nat.lt_of_not_le (fun z => c_1 (nI_le z (by omega)))
      refine lv_aload_n S.1 S.2.1 dJ7_fill_53178_10 rfl (lv_at hl 0 rfl) ?_
      refine lv_iload_n S.1 S.2.1 dJ7_fill_53178_11 rfl (lv_at hl 2 rfl) ?_
      refine lv_iload_n S.1 S.2.1 dJ7_fill_53178_12 rfl (lv_at hl 1 rfl) ?_
      refine x_iast S w 5 0 (g := pfx i (fun _ => 0) (f 0)) i (by omega) (rfl) (Nat.le_of_ble_eq_true rfl) (xc_5) rfl (xs_0) dJ7_fill_53178_13 (fun H locs (w : Wd D (kT cI cO) (va_A _ _) _ _ (xW cI cO a s (va_up (va_up f 0 (pfx i (fun _ => 0) (f 0))) 0 (upd (pfx i (fun _ => 0) (f 0)) i 0)) R) H locs) => ?_)
      have w := w.to (show xW cI cO a s (va_up (va_up f 0 (pfx i (fun _ => 0) (f 0))) 0 (upd (pfx i (fun _ => 0) (f 0)) i 0)) R = xW cI cO a s (va_up f 0 (pfx (i + 1) (fun _ => 0) (f 0))) R from x_f (va_step' rfl))
      refine lv_iinc (v := nI (i + 1)) (lv' := [(2, .int (nI (i + 1))), (0, .ref (a 5)), (1, .int 0), (3, .int (nI 48))]) S.1 S.2.1 dJ7_fill_53178_14 hl (k := 2) rfl (x_inc _) (by decide) rfl (fun ls hl => ?_)
      refine lv_goto (tgt := 5) S.1 S.2.1 dJ7_fill_53178_17 (by decide) ?_
      exact ih (i + 1) _ _ _ (by omega) (by omega) w (lv_sub hl [1, 2, 0, 3] rfl)
def o_fill0 (s : Nat → Int32) (f : Nat → Nat → Int32) : (Nat → Nat → Int32) := o_fill0_5 s f
set_option maxHeartbeats 4000000 in
set_option maxRecDepth 100000 in
theorem k_fill0 (l : Launch) (D : va_G) (cI cO : ClassId) (a : Nat → Nat) (R : va_W) (s : Nat → Int32) (f : Nat → Nat → Int32) : Mv l yJ7_fill_53178 cJ7_fill_53178 4 none { frames := 0, cells := 0, slots := 0, locals := 0 } D (kT cI cO) (xW cI cO a s f R) [.ref (a 5), .int 0] (xW cI cO a s (o_fill0 s f) R) := by
  intro sz
  refine ent (by decide +kernel) (Nat.le_of_ble_eq_true rfl) ?_
  intro p e st m below meth c ls S hr hlk hnm w hsz hl
  have hl : lv_has ls 4 [(0, .ref (a 5)), (1, .int 0)] := hl
  refine lv_iconst (v := 0) S.1 S.2.1 dJ7_fill_53178_0 (by decide) ?_
  refine lv_istore_n (lv' := [(2, .int 0), (0, .ref (a 5)), (1, .int 0)]) S.1 S.2.1 dJ7_fill_53178_1 rfl hl (by decide) rfl (fun ls hl => ?_)
  refine lv_aload_n S.1 S.2.1 dJ7_fill_53178_2 rfl (lv_at hl 1 rfl) ?_
  refine x_alen S w 5 0 (g := f 0) (xc_5) rfl dJ7_fill_53178_3 ?_
  refine lv_istore_n (lv' := [(3, .int (nI 48)), (2, .int 0), (0, .ref (a 5)), (1, .int 0)]) S.1 S.2.1 dJ7_fill_53178_4 rfl hl (by decide) rfl (fun ls hl => ?_)
  refine x_tov  (show xW cI cO a s (o_fill0_5 s f) R = xW cI cO a s (o_fill0 s f) R from by simp only [o_fill0]) ?_
  exact j_fill0_5 l D cI cO a R s f S hr hlk 49 0 _ _ _ (by omega) (by omega) (w.to (show xW cI cO a s f R = xW cI cO a s (va_up f 0 (pfx 0 (fun _ => 0) (f 0))) R from by rw [va_first])) (lv_sub hl [2, 3, 1, 0] rfl)
def o_fill1_5 (s : Nat → Int32) (f : Nat → Nat → Int32) : (Nat → Nat → Int32) := va_up f 1 (pfx 48 (fun _ => 0) (f 1))
set_option maxHeartbeats 4000000 in
set_option maxRecDepth 100000 in
theorem j_fill1_5 {p : Program} {e : Env} {st : State} {m : MethodId} {args : Array Value} {below : List Frame} {meth : Method} {c : Code} {ws0 : va_W} {sz : Nat} (l : Launch) (D : va_G) (cI cO : ClassId) (a : Nat → Nat) (R : va_W) (s : Nat → Int32) (f : Nat → Nat → Int32) (S : CallFix p m c cJ7_fill_53178 4 st args wsL_law RJ7) (hr : meth.sig.returnType = none) (hlk : meth.locks = false) : ∀ (n : Nat) (i : Nat) (H : Heap) (locs : List Loc) (ls : Array Slot), 49 ≤ i + n → i ≤ 48 → Wd D (kT cI cO) (va_A ws0 sz) st.heap st (xW cI cO a s (va_up f 1 (pfx i (fun _ => 0) (f 1))) R) H locs → lv_has ls 4 [(0, .ref (a 6)), (1, .int 0), (2, .int (nI i)), (3, .int (nI 48))] → W p l e { frames := 0, cells := 0, slots := 0, locals := 0 } st m args below meth c H locs 0 0 (MQ below (mQv D (kT cI cO) ws0 sz (xW cI cO a s (o_fill1_5 s f) R)) args st 0 0 (va_A ws0 sz)) (F0 m 5 ls []) := by
  intro n
  induction n with
  | zero => intro i H locs ls hfu hi w hl; exact absurd hfu (by omega)
  | succ n ih =>
    intro i H locs ls hfu hi w hl
    refine lv_iload_n S.1 S.2.1 dJ7_fill_53178_5 rfl (lv_at hl 2 rfl) ?_
    refine lv_iload_n S.1 S.2.1 dJ7_fill_53178_6 rfl (lv_at hl 3 rfl) ?_
    refine lv_icmp_ge (tgt := 20) S.1 S.2.1 dJ7_fill_53178_7 (by decide) (fun (c_1 : (nI 48) ≤ (nI i)) => ?_) (fun (c_1 : ¬ ((nI 48) ≤ (nI i))) => ?_)
    · have he : i = 48 := by
        have := (nI_leI (a := 48) (b := i) (by omega) (by omega)).mp c_1
        omega
      subst i
      exact x_retv S w hr hlk dJ7_fill_53178_20 (show xW cI cO a s (va_up f 1 (pfx 48 (fun _ => 0) (f 1))) R = xW cI cO a s (o_fill1_5 s f) R from by simp only [o_fill1_5])
    · have hlt : i < 48 := Nat.lt_of_not_le (fun z => c_1 (nI_le z (by omega)))
      refine lv_aload_n S.1 S.2.1 dJ7_fill_53178_10 rfl (lv_at hl 0 rfl) ?_
      refine lv_iload_n S.1 S.2.1 dJ7_fill_53178_11 rfl (lv_at hl 2 rfl) ?_
      refine lv_iload_n S.1 S.2.1 dJ7_fill_53178_12 rfl (lv_at hl 1 rfl) ?_
      refine x_iast S w 6 0 (g := pfx i (fun _ => 0) (f 1)) i (by omega) (rfl) (Nat.le_of_ble_eq_true rfl) (xc_6) rfl (xs_1) dJ7_fill_53178_13 (fun H locs (w : Wd D (kT cI cO) (va_A _ _) _ _ (xW cI cO a s (va_up (va_up f 1 (pfx i (fun _ => 0) (f 1))) 1 (upd (pfx i (fun _ => 0) (f 1)) i 0)) R) H locs) => ?_)
      have w := w.to (show xW cI cO a s (va_up (va_up f 1 (pfx i (fun _ => 0) (f 1))) 1 (upd (pfx i (fun _ => 0) (f 1)) i 0)) R = xW cI cO a s (va_up f 1 (pfx (i + 1) (fun _ => 0) (f 1))) R from x_f (va_step' rfl))
      refine lv_iinc (v := nI (i + 1)) (lv' := [(2, .int (nI (i + 1))), (0, .ref (a 6)), (1, .int 0), (3, .int (nI 48))]) S.1 S.2.1 dJ7_fill_53178_14 hl (k := 2) rfl (x_inc _) (by decide) rfl (fun ls hl => ?_)
      refine lv_goto (tgt := 5) S.1 S.2.1 dJ7_fill_53178_17 (by decide) ?_
      exact ih (i + 1) _ _ _ (by omega) (by omega) w (lv_sub hl [1, 2, 0, 3] rfl)
def o_fill1 (s : Nat → Int32) (f : Nat → Nat → Int32) : (Nat → Nat → Int32) := o_fill1_5 s f
set_option maxHeartbeats 4000000 in
set_option maxRecDepth 100000 in
theorem k_fill1 (l : Launch) (D : va_G) (cI cO : ClassId) (a : Nat → Nat) (R : va_W) (s : Nat → Int32) (f : Nat → Nat → Int32) : Mv l yJ7_fill_53178 cJ7_fill_53178 4 none { frames := 0, cells := 0, slots := 0, locals := 0 } D (kT cI cO) (xW cI cO a s f R) [.ref (a 6), .int 0] (xW cI cO a s (o_fill1 s f) R) := by
  intro sz
  refine ent (by decide +kernel) (Nat.le_of_ble_eq_true rfl) ?_
  intro p e st m below meth c ls S hr hlk hnm w hsz hl
  have hl : lv_has ls 4 [(0, .ref (a 6)), (1, .int 0)] := hl
  refine lv_iconst (v := 0) S.1 S.2.1 dJ7_fill_53178_0 (by decide) ?_
  refine lv_istore_n (lv' := [(2, .int 0), (0, .ref (a 6)), (1, .int 0)]) S.1 S.2.1 dJ7_fill_53178_1 rfl hl (by decide) rfl (fun ls hl => ?_)
  refine lv_aload_n S.1 S.2.1 dJ7_fill_53178_2 rfl (lv_at hl 1 rfl) ?_
  refine x_alen S w 6 0 (g := f 1) (xc_6) rfl dJ7_fill_53178_3 ?_
  refine lv_istore_n (lv' := [(3, .int (nI 48)), (2, .int 0), (0, .ref (a 6)), (1, .int 0)]) S.1 S.2.1 dJ7_fill_53178_4 rfl hl (by decide) rfl (fun ls hl => ?_)
  refine x_tov  (show xW cI cO a s (o_fill1_5 s f) R = xW cI cO a s (o_fill1 s f) R from by simp only [o_fill1]) ?_
  exact j_fill1_5 l D cI cO a R s f S hr hlk 49 0 _ _ _ (by omega) (by omega) (w.to (show xW cI cO a s f R = xW cI cO a s (va_up f 1 (pfx 0 (fun _ => 0) (f 1))) R from by rw [va_first])) (lv_sub hl [2, 3, 1, 0] rfl)
def o_fill6_5 (s : Nat → Int32) (f : Nat → Nat → Int32) : (Nat → Nat → Int32) := va_up f 6 (pfx 6 (fun _ => 0) (f 6))
set_option maxHeartbeats 4000000 in
set_option maxRecDepth 100000 in
theorem j_fill6_5 {p : Program} {e : Env} {st : State} {m : MethodId} {args : Array Value} {below : List Frame} {meth : Method} {c : Code} {ws0 : va_W} {sz : Nat} (l : Launch) (D : va_G) (cI cO : ClassId) (a : Nat → Nat) (R : va_W) (s : Nat → Int32) (f : Nat → Nat → Int32) (S : CallFix p m c cJ7_fill_53178 4 st args wsL_law RJ7) (hr : meth.sig.returnType = none) (hlk : meth.locks = false) : ∀ (n : Nat) (i : Nat) (H : Heap) (locs : List Loc) (ls : Array Slot), 7 ≤ i + n → i ≤ 6 → Wd D (kT cI cO) (va_A ws0 sz) st.heap st (xW cI cO a s (va_up f 6 (pfx i (fun _ => 0) (f 6))) R) H locs → lv_has ls 4 [(0, .ref (a 11)), (1, .int 0), (2, .int (nI i)), (3, .int (nI 6))] → W p l e { frames := 0, cells := 0, slots := 0, locals := 0 } st m args below meth c H locs 0 0 (MQ below (mQv D (kT cI cO) ws0 sz (xW cI cO a s (o_fill6_5 s f) R)) args st 0 0 (va_A ws0 sz)) (F0 m 5 ls []) := by
  intro n
  induction n with
  | zero => intro i H locs ls hfu hi w hl; exact absurd hfu (by omega)
  | succ n ih =>
    intro i H locs ls hfu hi w hl
    refine lv_iload_n S.1 S.2.1 dJ7_fill_53178_5 rfl (lv_at hl 2 rfl) ?_
    refine lv_iload_n S.1 S.2.1 dJ7_fill_53178_6 rfl (lv_at hl 3 rfl) ?_
    refine lv_icmp_ge (tgt := 20) S.1 S.2.1 dJ7_fill_53178_7 (by decide) (fun (c_1 : (nI 6) ≤ (nI i)) => ?_) (fun (c_1 : ¬ ((nI 6) ≤ (nI i))) => ?_)
    · have he : i = 6 := by
        have := (nI_leI (a := 6) (b := i) (by omega) (by omega)).mp c_1
        omega
      subst i
      exact x_retv S w hr hlk dJ7_fill_53178_20 (show xW cI cO a s (va_up f 6 (pfx 6 (fun _ => 0) (f 6))) R = xW cI cO a s (o_fill6_5 s f) R from by simp only [o_fill6_5])
    · have hlt : i < 6 := Nat.lt_of_not_le (fun z => c_1 (nI_le z (by omega)))
      refine lv_aload_n S.1 S.2.1 dJ7_fill_53178_10 rfl (lv_at hl 0 rfl) ?_
      refine lv_iload_n S.1 S.2.1 dJ7_fill_53178_11 rfl (lv_at hl 2 rfl) ?_
      refine lv_iload_n S.1 S.2.1 dJ7_fill_53178_12 rfl (lv_at hl 1 rfl) ?_
      refine x_iast S w 11 0 (g := pfx i (fun _ => 0) (f 6)) i (by omega) (rfl) (Nat.le_of_ble_eq_true rfl) (xc_11) rfl (xs_6) dJ7_fill_53178_13 (fun H locs (w : Wd D (kT cI cO) (va_A _ _) _ _ (xW cI cO a s (va_up (va_up f 6 (pfx i (fun _ => 0) (f 6))) 6 (upd (pfx i (fun _ => 0) (f 6)) i 0)) R) H locs) => ?_)
      have w := w.to (show xW cI cO a s (va_up (va_up f 6 (pfx i (fun _ => 0) (f 6))) 6 (upd (pfx i (fun _ => 0) (f 6)) i 0)) R = xW cI cO a s (va_up f 6 (pfx (i + 1) (fun _ => 0) (f 6))) R from x_f (va_step' rfl))
      refine lv_iinc (v := nI (i + 1)) (lv' := [(2, .int (nI (i + 1))), (0, .ref (a 11)), (1, .int 0), (3, .int (nI 6))]) S.1 S.2.1 dJ7_fill_53178_14 hl (k := 2) rfl (x_inc _) (by decide) rfl (fun ls hl => ?_)
      refine lv_goto (tgt := 5) S.1 S.2.1 dJ7_fill_53178_17 (by decide) ?_
      exact ih (i + 1) _ _ _ (by omega) (by omega) w (lv_sub hl [1, 2, 0, 3] rfl)
def o_fill6 (s : Nat → Int32) (f : Nat → Nat → Int32) : (Nat → Nat → Int32) := o_fill6_5 s f
set_option maxHeartbeats 4000000 in
set_option maxRecDepth 100000 in
theorem k_fill6 (l : Launch) (D : va_G) (cI cO : ClassId) (a : Nat → Nat) (R : va_W) (s : Nat → Int32) (f : Nat → Nat → Int32) : Mv l yJ7_fill_53178 cJ7_fill_53178 4 none { frames := 0, cells := 0, slots := 0, locals := 0 } D (kT cI cO) (xW cI cO a s f R) [.ref (a 11), .int 0] (xW cI cO a s (o_fill6 s f) R) := by
  intro sz
  refine ent (by decide +kernel) (Nat.le_of_ble_eq_true rfl) ?_
  intro p e st m below meth c ls S hr hlk hnm w hsz hl
  have hl : lv_has ls 4 [(0, .ref (a 11)), (1, .int 0)] := hl
  refine lv_iconst (v := 0) S.1 S.2.1 dJ7_fill_53178_0 (by decide) ?_
  refine lv_istore_n (lv' := [(2, .int 0), (0, .ref (a 11)), (1, .int 0)]) S.1 S.2.1 dJ7_fill_53178_1 rfl hl (by decide) rfl (fun ls hl => ?_)
  refine lv_aload_n S.1 S.2.1 dJ7_fill_53178_2 rfl (lv_at hl 1 rfl) ?_
  refine x_alen S w 11 0 (g := f 6) (xc_11) rfl dJ7_fill_53178_3 ?_
  refine lv_istore_n (lv' := [(3, .int (nI 6)), (2, .int 0), (0, .ref (a 11)), (1, .int 0)]) S.1 S.2.1 dJ7_fill_53178_4 rfl hl (by decide) rfl (fun ls hl => ?_)
  refine x_tov  (show xW cI cO a s (o_fill6_5 s f) R = xW cI cO a s (o_fill6 s f) R from by simp only [o_fill6]) ?_
  exact j_fill6_5 l D cI cO a R s f S hr hlk 7 0 _ _ _ (by omega) (by omega) (w.to (show xW cI cO a s f R = xW cI cO a s (va_up f 6 (pfx 0 (fun _ => 0) (f 6))) R from by rw [va_first])) (lv_sub hl [2, 3, 1, 0] rfl)
