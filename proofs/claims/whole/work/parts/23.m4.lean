def o_X5_record (s : Nat → Int32) (f : Nat → Nat → Int32) (N : Nat) (K : Nat) (d : Nat) (b : Nat) (mm : Nat) (G : Nat) (cc : Nat) (v : Int32) : Int32 × (Nat → Int32) × (Nat → Nat → Int32) := if (s 11) = 0 then ((-2000000003), s, f) else if (wIn v (-1000000) 1000000) = 0 then ((-2000000001), s, f) else if (nI N) ≤ (nI (cc + 1)) then ((-2000000004), (o_X5_finish (upd (upd s 12 (nI (cc + 1))) 11 0) (va_up f 3 (upd (f 3) cc v)) N K d b mm G).1, (o_X5_finish (upd (upd s 12 (nI (cc + 1))) 11 0) (va_up f 3 (upd (f 3) cc v)) N K d b mm G).2) else ((f 1) (cc + 1), upd s 12 (nI (cc + 1)), va_up f 3 (upd (f 3) cc v))
set_option maxHeartbeats 4000000 in
set_option maxRecDepth 100000 in
theorem k_X5_record (l : Launch) (D : va_G) (cI cO : ClassId) (a : Nat → Nat) (R : va_W) (s : Nat → Int32) (f : Nat → Nat → Int32) (N : Nat) (K : Nat) (d : Nat) (b : Nat) (mm : Nat) (G : Nat) (cc : Nat) (wt : Nat) (L : Nat) (v : Int32) (hN : s 0 = nI N) (h4 : 4 ≤ N) (h48 : N ≤ 48) (hK : s 19 = nI K) (hK2 : K + 1 < 1000000) (hd : s 2 = nI d) (hd8 : d ≤ 8) (hb : s 6 = nI b) (hb1 : 1 ≤ b) (hb10 : b ≤ 10) (hm : s 4 = nI mm) (hm4 : mm ≤ 4) (hG : s 7 = nI G) (hG5 : G ≤ 5) (hw : s 3 = nI wt) (hw3 : wt ≤ 333) (hL : s 5 = nI L) (hL1 : 1 ≤ L) (hL6 : L ≤ 1000000) (hc : s 12 = nI cc) (hrun : ¬ s 11 = 0 → cc < N) : Mi l yX5_record cX5_record 2 (some .int) { frames := 4, cells := 0, slots := 0, locals := 99 } D (kT cI cO) (mW cI cO a s f R) [.ref (a 0), .int v] (mW cI cO a (o_X5_record s f N K d b mm G cc v).2.1 (o_X5_record s f N K d b mm G cc v).2.2 R) (o_X5_record s f N K d b mm G cc v).1 := by
  intro sz
  refine ent (by decide +kernel) (Nat.le_of_ble_eq_true rfl) ?_
  intro p e st m below meth c ls S hr hlk hnm w hsz hl
  have hl : lv_has ls 2 [(0, .ref (a 0)), (1, .int v)] := hl
  refine lv_aload_n S.1 S.2.1 dX5_record_0 rfl (lv_at hl 0 rfl) ?_
  refine mg_11 S w lk_RX5_83 dX5_record_1 ?_
  refine lv_if_ne (tgt := 10) S.1 S.2.1 dX5_record_4 (by decide) (fun (c_1 : ¬ (s 11) = 0) => ?_) (fun (c_1 : (s 11) = 0) => ?_)
  · have hcN := hrun c_1
    refine lv_iload_n S.1 S.2.1 dX5_record_10 rfl (lv_at hl 1 rfl) ?_
    refine x_ldc S lk_RX5_122 dX5_record_11 ?_
    refine x_ldc S lk_RX5_63 dX5_record_13 ?_
    refine x_Si (As := [.int v, .int (-1000000), .int 1000000]) (rest := []) S w (goodS lk_RX5_113 lt_X5_in ln_RX5 lc_X5_in) hd_X5_in (k_X5_in l _ _ (mW cI cO a s f R) v (-1000000) 1000000) rfl ⟨(Nat.le_of_ble_eq_true rfl), (Nat.le_of_ble_eq_true rfl)⟩ ⟨rfl, rfl⟩ hl.1 rfl (Nat.le_of_ble_eq_true rfl) ⟨Nat.zero_le _, Nat.zero_le _⟩ dX5_record_15 (fun H locs (w : Wd D (kT cI cO) (va_A _ _) _ _ (mW cI cO a s f R) H locs) => ?_)
    refine lv_if_ne (tgt := 24) S.1 S.2.1 dX5_record_18 (by decide) (fun (c_2 : ¬ (wIn v (-1000000) 1000000) = 0) => ?_) (fun (c_2 : (wIn v (-1000000) 1000000) = 0) => ?_)
    · refine lv_aload_n S.1 S.2.1 dX5_record_24 rfl (lv_at hl 0 rfl) ?_
      refine mr_4 S w lk_RX5_16 dX5_record_25 ?_
      refine lv_aload_n S.1 S.2.1 dX5_record_28 rfl (lv_at hl 0 rfl) ?_
      refine mg_12 S w lk_RX5_86 dX5_record_29 ?_
      refine x_eqi (x := s 12) (y := nI cc) (hc) ?_
      refine lv_iload_n S.1 S.2.1 dX5_record_32 rfl (lv_at hl 1 rfl) ?_
      refine x_iast S w 4 0 (g := f 3) cc (by omega) (rfl) (Nat.le_of_ble_eq_true rfl) (mc_4) rfl (ms_3) dX5_record_33 (fun H locs (w : Wd D (kT cI cO) (va_A _ _) _ _ (mW cI cO a s (va_up f 3 (upd (f 3) cc v)) R) H locs) => ?_)
      refine lv_aload_n S.1 S.2.1 dX5_record_34 rfl (lv_at hl 0 rfl) ?_
      refine lv_dup S.1 S.2.1 dX5_record_35 rfl ?_
      refine mg_12 S w lk_RX5_86 dX5_record_36 ?_
      refine x_eqi (x := s 12) (y := nI cc) (hc) ?_
      refine lv_iconst (v := 1) S.1 S.2.1 dX5_record_39 (by decide) ?_
      refine lv_iadd S.1 S.2.1 dX5_record_40 ?_
      refine x_eqi (x := (nI cc) + 1) (y := nI (cc + 1)) (nI_1 cc) ?_
      refine mp_12 S w lk_RX5_86 dX5_record_41 (fun H locs (w : Wd D (kT cI cO) (va_A _ _) _ _ (mW cI cO a (upd s 12 (nI (cc + 1))) (va_up f 3 (upd (f 3) cc v)) R) H locs) => ?_)
      refine lv_aload_n S.1 S.2.1 dX5_record_44 rfl (lv_at hl 0 rfl) ?_
      refine mg_12 S w lk_RX5_86 dX5_record_45 ?_
      refine x_eqi (x := (upd s 12 (nI (cc + 1))) 12) (y := nI (cc + 1)) rfl ?_
      refine lv_aload_n S.1 S.2.1 dX5_record_48 rfl (lv_at hl 0 rfl) ?_
      refine mg_0 S w lk_RX5_47 dX5_record_49 ?_
      refine x_eqi (x := (upd s 12 (nI (cc + 1))) 0) (y := s 0) rfl ?_
      refine x_eqi (x := s 0) (y := nI N) (hN) ?_
      refine lv_icmp_ge (tgt := 65) S.1 S.2.1 dX5_record_52 (by decide) (fun (c_3 : (nI N) ≤ (nI (cc + 1))) => ?_) (fun (c_3 : ¬ ((nI N) ≤ (nI (cc + 1)))) => ?_)
      · refine lv_aload_n S.1 S.2.1 dX5_record_65 rfl (lv_at hl 0 rfl) ?_
        refine lv_iconst (v := 0) S.1 S.2.1 dX5_record_66 (by decide) ?_
        refine mp_11 S w (Or.inl rfl) lk_RX5_83 dX5_record_67 (fun H locs (w : Wd D (kT cI cO) (va_A _ _) _ _ (mW cI cO a (upd (upd s 12 (nI (cc + 1))) 11 0) (va_up f 3 (upd (f 3) cc v)) R) H locs) => ?_)
        refine lv_aload_n S.1 S.2.1 dX5_record_70 rfl (lv_at hl 0 rfl) ?_
        refine x_Vv (As := []) (rest := []) S w (goodV lk_RX5_166 li_X5_finish ls_X5_finish ln_RX5 lc_X5_finish) hV_X5_finish (k_X5_finish l D cI cO a R (upd (upd s 12 (nI (cc + 1))) 11 0) (va_up f 3 (upd (f 3) cc v)) N K d b mm G wt L hN h4 h48 hK hK2 hd hd8 hb hb1 hb10 hm hm4 hG hG5 hw hw3 hL hL1 hL6) rfl 0 5 rfl rfl mc_0 ⟨(Nat.le_of_ble_eq_true rfl), (Nat.le_of_ble_eq_true rfl)⟩ ⟨rfl, rfl⟩ hl.1 rfl (Nat.le_of_ble_eq_true rfl) ⟨Nat.zero_le _, Nat.zero_le _⟩ dX5_record_71 (fun H locs (w : Wd D (kT cI cO) (va_A _ _) _ _ (mW cI cO a (o_X5_finish (upd (upd s 12 (nI (cc + 1))) 11 0) (va_up f 3 (upd (f 3) cc v)) N K d b mm G).1 (o_X5_finish (upd (upd s 12 (nI (cc + 1))) 11 0) (va_up f 3 (upd (f 3) cc v)) N K d b mm G).2 R) H locs) => ?_)
        refine x_ldc S lk_RX5_169 dX5_record_74 ?_
        exact x_reti S w hr hlk dX5_record_76 (show (-2000000004) = (o_X5_record s f N K d b mm G cc v).1 from by simp only [o_X5_record, if_neg c_1, if_neg c_2, if_pos c_3]) (show mW cI cO a (o_X5_finish (upd (upd s 12 (nI (cc + 1))) 11 0) (va_up f 3 (upd (f 3) cc v)) N K d b mm G).1 (o_X5_finish (upd (upd s 12 (nI (cc + 1))) 11 0) (va_up f 3 (upd (f 3) cc v)) N K d b mm G).2 R = mW cI cO a (o_X5_record s f N K d b mm G cc v).2.1 (o_X5_record s f N K d b mm G cc v).2.2 R from by simp only [o_X5_record, if_neg c_1, if_neg c_2, if_pos c_3])
      · have hlt : cc + 1 < N := Nat.lt_of_not_le (fun z => c_3 (nI_le z (by omega)))
        refine lv_aload_n S.1 S.2.1 dX5_record_55 rfl (lv_at hl 0 rfl) ?_
        refine mr_2 S w lk_RX5_13 dX5_record_56 ?_
        refine lv_aload_n S.1 S.2.1 dX5_record_59 rfl (lv_at hl 0 rfl) ?_
        refine mg_12 S w lk_RX5_86 dX5_record_60 ?_
        refine x_eqi (x := (upd s 12 (nI (cc + 1))) 12) (y := nI (cc + 1)) rfl ?_
        refine x_iald S w 2 0 (g := f 1) (v := (f 1) (cc + 1)) (cc + 1) (by omega) (rfl) (Nat.le_of_ble_eq_true rfl) (mc_2) rfl (rfl) dX5_record_63 ?_
        exact x_reti S w hr hlk dX5_record_64 (show (f 1) (cc + 1) = (o_X5_record s f N K d b mm G cc v).1 from by simp only [o_X5_record, if_neg c_1, if_neg c_2, if_neg c_3]) (show mW cI cO a (upd s 12 (nI (cc + 1))) (va_up f 3 (upd (f 3) cc v)) R = mW cI cO a (o_X5_record s f N K d b mm G cc v).2.1 (o_X5_record s f N K d b mm G cc v).2.2 R from by simp only [o_X5_record, if_neg c_1, if_neg c_2, if_neg c_3])
    · refine x_ldc S lk_RX5_117 dX5_record_21 ?_
      exact x_reti S w hr hlk dX5_record_23 (show (-2000000001) = (o_X5_record s f N K d b mm G cc v).1 from by simp only [o_X5_record, if_neg c_1, if_pos c_2]) (show mW cI cO a s f R = mW cI cO a (o_X5_record s f N K d b mm G cc v).2.1 (o_X5_record s f N K d b mm G cc v).2.2 R from by simp only [o_X5_record, if_neg c_1, if_pos c_2])
  · refine x_ldc S lk_RX5_165 dX5_record_7 ?_
    exact x_reti S w hr hlk dX5_record_9 (show (-2000000003) = (o_X5_record s f N K d b mm G cc v).1 from by simp only [o_X5_record, if_pos c_1]) (show mW cI cO a s f R = mW cI cO a (o_X5_record s f N K d b mm G cc v).2.1 (o_X5_record s f N K d b mm G cc v).2.2 R from by simp only [o_X5_record, if_pos c_1])
def o_X5_abort_27 (s : Nat → Int32) (f : Nat → Nat → Int32) (N : Nat) (cc : Nat) (d : Nat) (b : Nat) (mm : Nat) : Int32 × (Nat → Int32) × (Nat → Nat → Int32) := if (nI cc) ≤ 0 then (nI cc, upd (upd s 11 0) 14 (s 14 + 1), va_up f 5 (pfx cc (peF f) (f 5))) else (nI cc, upd (upd s 11 0) 14 (s 14 + 1), o_X5_correct (upd (upd s 11 0) 14 (s 14 + 1)) (va_up f 5 (pfx cc (peF f) (f 5))) N cc d b mm 1)
set_option maxHeartbeats 4000000 in
set_option maxRecDepth 100000 in
theorem j_X5_abort_27 {p : Program} {e : Env} {st : State} {m : MethodId} {args : Array Value} {below : List Frame} {meth : Method} {c : Code} {ws0 : va_W} {sz : Nat} (l : Launch) (D : va_G) (cI cO : ClassId) (a : Nat → Nat) (R : va_W) (s : Nat → Int32) (f : Nat → Nat → Int32) (N : Nat) (cc : Nat) (d : Nat) (b : Nat) (mm : Nat) (wt : Nat) (L : Nat) (hN : s 0 = nI N) (h4 : 4 ≤ N) (h48 : N ≤ 48) (hd : s 2 = nI d) (hd8 : d ≤ 8) (hb : s 6 = nI b) (hb1 : 1 ≤ b) (hb10 : b ≤ 10) (hm : s 4 = nI mm) (hm4 : mm ≤ 4) (hw : s 3 = nI wt) (hw3 : wt ≤ 333) (hL : s 5 = nI L) (hL1 : 1 ≤ L) (hL6 : L ≤ 1000000) (hc : s 12 = nI cc) (hcN : cc ≤ N) (S : CallFix p m c cX5_abort 2 st args wsL_law RX5) (hr : meth.sig.returnType = (some .int)) (hlk : meth.locks = false) : ∀ (n : Nat) (i : Nat) (H : Heap) (locs : List Loc) (ls : Array Slot), cc + 1 ≤ i + n → i ≤ cc → Wd D (kT cI cO) (va_A ws0 sz) st.heap st (mW cI cO a (upd (upd s 11 0) 14 (s 14 + 1)) (va_up f 5 (pfx i (peF f) (f 5))) R) H locs → lv_has ls 2 [(0, .ref (a 0)), (1, .int (nI i))] → W p l e { frames := 3, cells := 0, slots := 0, locals := 76 } st m args below meth c H locs 0 0 (MQ below (mQi D (kT cI cO) ws0 sz (mW cI cO a (o_X5_abort_27 s f N cc d b mm).2.1 (o_X5_abort_27 s f N cc d b mm).2.2 R) (o_X5_abort_27 s f N cc d b mm).1) args st 0 0 (va_A ws0 sz)) (F0 m 27 ls []) := by
  intro n
  induction n with
  | zero => intro i H locs ls hfu hi w hl; exact absurd hfu (by omega)
  | succ n ih =>
    intro i H locs ls hfu hi w hl
    refine lv_iload_n S.1 S.2.1 dX5_abort_27 rfl (lv_at hl 1 rfl) ?_
    refine lv_aload_n S.1 S.2.1 dX5_abort_28 rfl (lv_at hl 0 rfl) ?_
    refine mg_12 S w lk_RX5_86 dX5_abort_29 ?_
    refine x_eqi (x := (upd (upd s 11 0) 14 (s 14 + 1)) 12) (y := s 12) rfl ?_
    refine x_eqi (x := s 12) (y := nI cc) (hc) ?_
    refine lv_icmp_ge (tgt := 60) S.1 S.2.1 dX5_abort_32 (by decide) (fun (c_1 : (nI cc) ≤ (nI i)) => ?_) (fun (c_1 : ¬ ((nI cc) ≤ (nI i))) => ?_)
    · have he : i = cc := by
        have := (nI_leI (a := cc) (b := i) (by omega) (by omega)).mp c_1
        omega
      subst i
      refine lv_aload_n S.1 S.2.1 dX5_abort_60 rfl (lv_at hl 0 rfl) ?_
      refine mg_12 S w lk_RX5_86 dX5_abort_61 ?_
      refine x_eqi (x := (upd (upd s 11 0) 14 (s 14 + 1)) 12) (y := s 12) rfl ?_
      refine x_eqi (x := s 12) (y := nI cc) (hc) ?_
      refine lv_if_le (tgt := 76) S.1 S.2.1 dX5_abort_64 (by decide) (fun (c_2 : (nI cc) ≤ 0) => ?_) (fun (c_2 : ¬ ((nI cc) ≤ 0)) => ?_)
      · refine lv_aload_n S.1 S.2.1 dX5_abort_76 rfl (lv_at hl 0 rfl) ?_
        refine mg_12 S w lk_RX5_86 dX5_abort_77 ?_
        refine x_eqi (x := (upd (upd s 11 0) 14 (s 14 + 1)) 12) (y := s 12) rfl ?_
        refine x_eqi (x := s 12) (y := nI cc) (hc) ?_
        exact x_reti S w hr hlk dX5_abort_80 (show nI cc = (o_X5_abort_27 s f N cc d b mm).1 from by simp only [o_X5_abort_27, if_pos c_2]) (show mW cI cO a (upd (upd s 11 0) 14 (s 14 + 1)) (va_up f 5 (pfx cc (peF f) (f 5))) R = mW cI cO a (o_X5_abort_27 s f N cc d b mm).2.1 (o_X5_abort_27 s f N cc d b mm).2.2 R from by simp only [o_X5_abort_27, if_pos c_2])
      · refine lv_aload_n S.1 S.2.1 dX5_abort_67 rfl (lv_at hl 0 rfl) ?_
        refine lv_aload_n S.1 S.2.1 dX5_abort_68 rfl (lv_at hl 0 rfl) ?_
        refine mg_12 S w lk_RX5_86 dX5_abort_69 ?_
        refine x_eqi (x := (upd (upd s 11 0) 14 (s 14 + 1)) 12) (y := s 12) rfl ?_
        refine x_eqi (x := s 12) (y := nI cc) (hc) ?_
        refine lv_iconst (v := 1) S.1 S.2.1 dX5_abort_72 (by decide) ?_
        refine x_Vv (As := [.int (nI cc), .int 1]) (rest := []) S w (goodV lk_RX5_157 li_X5_correct ls_X5_correct ln_RX5 lc_X5_correct) hV_X5_correct (k_X5_correct l D cI cO a R (upd (upd s 11 0) 14 (s 14 + 1)) (va_up f 5 (pfx cc (peF f) (f 5))) N cc d b mm wt L 1 hN h4 h48 hd hd8 hb hb1 hb10 hm hm4 hw hw3 hL hL1 hL6 hcN) rfl 0 5 rfl rfl mc_0 ⟨(Nat.le_of_ble_eq_true rfl), (Nat.le_of_ble_eq_true rfl)⟩ ⟨rfl, rfl⟩ hl.1 rfl (Nat.le_of_ble_eq_true rfl) ⟨Nat.zero_le _, Nat.zero_le _⟩ dX5_abort_73 (fun H locs (w : Wd D (kT cI cO) (va_A _ _) _ _ (mW cI cO a (upd (upd s 11 0) 14 (s 14 + 1)) (o_X5_correct (upd (upd s 11 0) 14 (s 14 + 1)) (va_up f 5 (pfx cc (peF f) (f 5))) N cc d b mm 1) R) H locs) => ?_)
        refine lv_aload_n S.1 S.2.1 dX5_abort_76 rfl (lv_at hl 0 rfl) ?_
        refine mg_12 S w lk_RX5_86 dX5_abort_77 ?_
        refine x_eqi (x := (upd (upd s 11 0) 14 (s 14 + 1)) 12) (y := s 12) rfl ?_
        refine x_eqi (x := s 12) (y := nI cc) (hc) ?_
        exact x_reti S w hr hlk dX5_abort_80 (show nI cc = (o_X5_abort_27 s f N cc d b mm).1 from by simp only [o_X5_abort_27, if_neg c_2]) (show mW cI cO a (upd (upd s 11 0) 14 (s 14 + 1)) (o_X5_correct (upd (upd s 11 0) 14 (s 14 + 1)) (va_up f 5 (pfx cc (peF f) (f 5))) N cc d b mm 1) R = mW cI cO a (o_X5_abort_27 s f N cc d b mm).2.1 (o_X5_abort_27 s f N cc d b mm).2.2 R from by simp only [o_X5_abort_27, if_neg c_2])
    · have hlt : i < cc := Nat.lt_of_not_le (fun z => c_1 (nI_le z (by omega)))
      refine lv_aload_n S.1 S.2.1 dX5_abort_35 rfl (lv_at hl 0 rfl) ?_
      refine mr_6 S w lk_RX5_19 dX5_abort_36 ?_
      refine lv_iload_n S.1 S.2.1 dX5_abort_39 rfl (lv_at hl 1 rfl) ?_
      refine lv_aload_n S.1 S.2.1 dX5_abort_40 rfl (lv_at hl 0 rfl) ?_
      refine mr_1 S w lk_RX5_7 dX5_abort_41 ?_
      refine lv_iload_n S.1 S.2.1 dX5_abort_44 rfl (lv_at hl 1 rfl) ?_
      refine x_iald S w 1 0 (g := f 0) (v := (f 0) i) i (by omega) (rfl) (Nat.le_of_ble_eq_true rfl) (mc_1) rfl (rfl) dX5_abort_45 ?_
      refine lv_aload_n S.1 S.2.1 dX5_abort_46 rfl (lv_at hl 0 rfl) ?_
      refine mr_4 S w lk_RX5_16 dX5_abort_47 ?_
      refine lv_iload_n S.1 S.2.1 dX5_abort_50 rfl (lv_at hl 1 rfl) ?_
      refine x_iald S w 4 0 (g := f 3) (v := (f 3) i) i (by omega) (rfl) (Nat.le_of_ble_eq_true rfl) (mc_4) rfl (rfl) dX5_abort_51 ?_
      refine lv_isub S.1 S.2.1 dX5_abort_52 ?_
      refine x_iast S w 6 0 (g := pfx i (peF f) (f 5)) i (by omega) (rfl) (Nat.le_of_ble_eq_true rfl) (mc_6) rfl (ms_5) dX5_abort_53 (fun H locs (w : Wd D (kT cI cO) (va_A _ _) _ _ (mW cI cO a (upd (upd s 11 0) 14 (s 14 + 1)) (va_up (va_up f 5 (pfx i (peF f) (f 5))) 5 (upd (pfx i (peF f) (f 5)) i (((f 0) i) - ((f 3) i)))) R) H locs) => ?_)
      have w := w.to (show mW cI cO a (upd (upd s 11 0) 14 (s 14 + 1)) (va_up (va_up f 5 (pfx i (peF f) (f 5))) 5 (upd (pfx i (peF f) (f 5)) i (((f 0) i) - ((f 3) i)))) R = mW cI cO a (upd (upd s 11 0) 14 (s 14 + 1)) (va_up f 5 (pfx (i + 1) (peF f) (f 5))) R from m_f (va_step' rfl))
      refine lv_iinc (v := nI (i + 1)) (lv' := [(1, .int (nI (i + 1))), (0, .ref (a 0))]) S.1 S.2.1 dX5_abort_54 hl (k := 1) rfl (x_inc _) (by decide) rfl (fun ls hl => ?_)
      refine lv_goto (tgt := 27) S.1 S.2.1 dX5_abort_57 (by decide) ?_
      exact ih (i + 1) _ _ _ (by omega) (by omega) w (lv_sub hl [1, 0] rfl)
def o_X5_abort (s : Nat → Int32) (f : Nat → Nat → Int32) (N : Nat) (cc : Nat) (d : Nat) (b : Nat) (mm : Nat) : Int32 × (Nat → Int32) × (Nat → Nat → Int32) := if (s 11) = 0 then ((-2000000003), s, f) else o_X5_abort_27 s f N cc d b mm
set_option maxHeartbeats 4000000 in
set_option maxRecDepth 100000 in
theorem k_X5_abort (l : Launch) (D : va_G) (cI cO : ClassId) (a : Nat → Nat) (R : va_W) (s : Nat → Int32) (f : Nat → Nat → Int32) (N : Nat) (cc : Nat) (d : Nat) (b : Nat) (mm : Nat) (wt : Nat) (L : Nat) (hN : s 0 = nI N) (h4 : 4 ≤ N) (h48 : N ≤ 48) (hd : s 2 = nI d) (hd8 : d ≤ 8) (hb : s 6 = nI b) (hb1 : 1 ≤ b) (hb10 : b ≤ 10) (hm : s 4 = nI mm) (hm4 : mm ≤ 4) (hw : s 3 = nI wt) (hw3 : wt ≤ 333) (hL : s 5 = nI L) (hL1 : 1 ≤ L) (hL6 : L ≤ 1000000) (hc : s 12 = nI cc) (hcN : cc ≤ N) : Mi l yX5_abort cX5_abort 2 (some .int) { frames := 3, cells := 0, slots := 0, locals := 76 } D (kT cI cO) (mW cI cO a s f R) [.ref (a 0)] (mW cI cO a (o_X5_abort s f N cc d b mm).2.1 (o_X5_abort s f N cc d b mm).2.2 R) (o_X5_abort s f N cc d b mm).1 := by
  intro sz
  refine ent (by decide +kernel) (Nat.le_of_ble_eq_true rfl) ?_
  intro p e st m below meth c ls S hr hlk hnm w hsz hl
  have hl : lv_has ls 2 [(0, .ref (a 0))] := hl
  refine lv_aload_n S.1 S.2.1 dX5_abort_0 rfl (lv_at hl 0 rfl) ?_
  refine mg_11 S w lk_RX5_83 dX5_abort_1 ?_
  refine lv_if_ne (tgt := 10) S.1 S.2.1 dX5_abort_4 (by decide) (fun (c_3 : ¬ (s 11) = 0) => ?_) (fun (c_3 : (s 11) = 0) => ?_)
  · refine lv_aload_n S.1 S.2.1 dX5_abort_10 rfl (lv_at hl 0 rfl) ?_
    refine lv_iconst (v := 0) S.1 S.2.1 dX5_abort_11 (by decide) ?_
    refine mp_11 S w (Or.inl rfl) lk_RX5_83 dX5_abort_12 (fun H locs (w : Wd D (kT cI cO) (va_A _ _) _ _ (mW cI cO a (upd s 11 0) f R) H locs) => ?_)
    refine lv_aload_n S.1 S.2.1 dX5_abort_15 rfl (lv_at hl 0 rfl) ?_
    refine lv_dup S.1 S.2.1 dX5_abort_16 rfl ?_
    refine mg_14 S w lk_RX5_95 dX5_abort_17 ?_
    refine x_eqi (x := (upd s 11 0) 14) (y := s 14) rfl ?_
    refine lv_iconst (v := 1) S.1 S.2.1 dX5_abort_20 (by decide) ?_
    refine lv_iadd S.1 S.2.1 dX5_abort_21 ?_
    refine mp_14 S w lk_RX5_95 dX5_abort_22 (fun H locs (w : Wd D (kT cI cO) (va_A _ _) _ _ (mW cI cO a (upd (upd s 11 0) 14 ((s 14) + 1)) f R) H locs) => ?_)
    refine lv_iconst (v := 0) S.1 S.2.1 dX5_abort_25 (by decide) ?_
    refine lv_istore_n (lv' := [(1, .int 0), (0, .ref (a 0))]) S.1 S.2.1 dX5_abort_26 rfl hl (by decide) rfl (fun ls hl => ?_)
    refine x_toi (show (o_X5_abort_27 s f N cc d b mm).1 = (o_X5_abort s f N cc d b mm).1 from by simp only [o_X5_abort, if_neg c_3]) (show mW cI cO a (o_X5_abort_27 s f N cc d b mm).2.1 (o_X5_abort_27 s f N cc d b mm).2.2 R = mW cI cO a (o_X5_abort s f N cc d b mm).2.1 (o_X5_abort s f N cc d b mm).2.2 R from by simp only [o_X5_abort, if_neg c_3]) ?_
    exact j_X5_abort_27 l D cI cO a R s f N cc d b mm wt L hN h4 h48 hd hd8 hb hb1 hb10 hm hm4 hw hw3 hL hL1 hL6 hc hcN S hr hlk (cc + 1) 0 _ _ _ (by omega) (by omega) (w.to (show mW cI cO a (upd (upd s 11 0) 14 ((s 14) + 1)) f R = mW cI cO a (upd (upd s 11 0) 14 (s 14 + 1)) (va_up f 5 (pfx 0 (peF f) (f 5))) R from m_f va_first.symm)) (lv_sub hl [1, 0] rfl)
  · refine x_ldc S lk_RX5_165 dX5_abort_7 ?_
    exact x_reti S w hr hlk dX5_abort_9 (show (-2000000003) = (o_X5_abort s f N cc d b mm).1 from by simp only [o_X5_abort, if_pos c_3]) (show mW cI cO a s f R = mW cI cO a (o_X5_abort s f N cc d b mm).2.1 (o_X5_abort s f N cc d b mm).2.2 R from by simp only [o_X5_abort, if_pos c_3])
theorem am_ne {x : Int32} {am : Nat} (h : x = nI am) (h3 : am ≤ 1000) : ¬ 2 * x + 1 = 0 := by
  rw [h, show (2 : Int32) = nI 2 from rfl, pk_mul, nI_1]
  exact nI_ne0 (by omega) (by omega)
theorem am_0 {x : Int32} {am : Nat} (h : x = nI am) (h3 : am ≤ 1000) (h0 : x ≤ 0) : x = 0 := by
  rw [h] at h0 ⊢
  have := (nI_leI (a := am) (b := 0) (by omega) (by omega)).mp h0
  have h1 : am = 0 := by omega
  rw [h1]; rfl
theorem kp_6 (v : Int64) : o_X5_kept v 1000000 = o_X4_limitTo v 1000000 := kp_eq (L := 1000000) (by decide) (by decide)
theorem am_1 {x : Int32} (h0 : ¬ x ≤ 0) : ¬ x = 0 := fun z => h0 (by rw [z]; exact Int32.le_refl _)
theorem m_s {cI cO : ClassId} {a : Nat → Nat} {s s' : Nat → Int32} {f : Nat → Nat → Int32} {R : va_W} (h : s = s') : mW cI cO a s f R = mW cI cO a s' f R := h ▸ rfl
def o_X5_outputOf_5 (s : Nat → Int32) (f : Nat → Nat → Int32) (j : Nat) : Int32 × (Nat → Int32) := (o_X4_limitTo (outF f j + Int32.toInt64 (dsF s)) 1000000, upd s 18 (sdF s))
set_option maxHeartbeats 4000000 in
set_option maxRecDepth 100000 in
theorem j_X5_outputOf_5 {p : Program} {e : Env} {st : State} {m : MethodId} {args : Array Value} {below : List Frame} {meth : Method} {c : Code} {ws0 : va_W} {sz : Nat} (l : Launch) (D : va_G) (cI cO : ClassId) (a : Nat → Nat) (R : va_W) (s : Nat → Int32) (f : Nat → Nat → Int32) (j : Nat) (am : Nat) (hj : j < 48) (ham : s 17 = nI am) (ham3 : am ≤ 1000) (S : CallFix p m c cX5_outputOf 6 st args wsL_law RX5) (hr : meth.sig.returnType = (some .int)) (hlk : meth.locks = false) : ∀ (n : Nat) (i : Nat) (H : Heap) (locs : List Loc) (ls : Array Slot), min j 5 + 2 ≤ i + n → i ≤ min j 5 + 1 → Wd D (kT cI cO) (va_A ws0 sz) st.heap st (mW cI cO a s f R) H locs → lv_has ls 6 [(0, .ref (a 0)), (1, .int (nI j)), (2, .long (sumL (fun y => Int32.toInt64 (f 6 y) * Int32.toInt64 (f 1 (j - y))) i)), (4, .int (nI i))] → W p l e { frames := 1, cells := 0, slots := 0, locals := 25 } st m args below meth c H locs 0 0 (MQ below (mQi D (kT cI cO) ws0 sz (mW cI cO a (o_X5_outputOf_5 s f j).2 f R) (o_X5_outputOf_5 s f j).1) args st 0 0 (va_A ws0 sz)) (F0 m 5 ls []) := by
  intro n
  induction n with
  | zero => intro i H locs ls hfu hi w hl; exact absurd hfu (by omega)
  | succ n ih =>
    intro i H locs ls hfu hi w hl
    refine lv_iload S.1 S.2.1 dX5_outputOf_5 (lv_at hl 3 rfl) ?_
    refine lv_bipush (v := 6) S.1 S.2.1 dX5_outputOf_7 (by decide) ?_
    refine lv_icmp_ge (tgt := 46) S.1 S.2.1 dX5_outputOf_9 (by decide) (fun (c_1 : 6 ≤ (nI i)) => ?_) (fun (c_1 : ¬ (6 ≤ (nI i))) => ?_)
    · have he : i = min j 5 + 1 := by
        have := (nI_leI (a := 6) (b := i) (by omega) (by omega)).mp c_1
        omega
      subst i
      refine lv_lload_n S.1 S.2.1 dX5_outputOf_46 rfl (lv_at hl 2 rfl) ?_
      refine x_ldc2 S lk_RX5_123 dX5_outputOf_47 ?_
      refine x_Sl (As := [.long (sumL (fun y => Int32.toInt64 (f 6 y) * Int32.toInt64 (f 1 (j - y))) (min j 5 + 1)), .long 1000]) (rest := []) S w (goodS lk_RX5_125 lt_X5_down ln_RX5 lc_X5_down) hd_X5_down (k_X5_down l _ _ (mW cI cO a s f R) (sumL (fun y => Int32.toInt64 (f 6 y) * Int32.toInt64 (f 1 (j - y))) (min j 5 + 1)) 1000 (by decide)) rfl ⟨(Nat.le_of_ble_eq_true rfl), (Nat.le_of_ble_eq_true rfl)⟩ ⟨rfl, rfl⟩ hl.1 rfl (Nat.le_of_ble_eq_true rfl) ⟨Nat.zero_le _, Nat.zero_le _⟩ dX5_outputOf_50 (fun H locs (w : Wd D (kT cI cO) (va_A _ _) _ _ (mW cI cO a s f R) H locs) => ?_)
      refine x_eql (x := o_X5_down (sumL (fun y => Int32.toInt64 (f 6 y) * Int32.toInt64 (f 1 (j - y))) (min j 5 + 1)) 1000) (y := outF f j) (dn_eq _ _) ?_
      refine lv_lstore (lv' := [(4, .long (outF f j)), (0, .ref (a 0)), (1, .int (nI j)), (2, .long (sumL (fun y => Int32.toInt64 (f 6 y) * Int32.toInt64 (f 1 (j - y))) (min j 5 + 1)))]) S.1 S.2.1 dX5_outputOf_53 hl (by decide) rfl (fun ls hl => ?_)
      refine lv_aload_n S.1 S.2.1 dX5_outputOf_55 rfl (lv_at hl 1 rfl) ?_
      refine mg_17 S w lk_RX5_107 dX5_outputOf_56 ?_
      refine lv_if_le (tgt := 104) S.1 S.2.1 dX5_outputOf_59 (by decide) (fun (c_2 : (s 17) ≤ 0) => ?_) (fun (c_2 : ¬ ((s 17) ≤ 0)) => ?_)
      · refine lv_lload S.1 S.2.1 dX5_outputOf_104 (lv_at hl 0 rfl) ?_
        refine x_ldc S lk_RX5_63 dX5_outputOf_106 ?_
        refine x_Si (As := [.long (outF f j), .int 1000000]) (rest := []) S w (goodS lk_RX5_132 lt_X5_kept ln_RX5 lc_X5_kept) hd_X5_kept (k_X5_kept l _ _ (mW cI cO a s f R) (outF f j) 1000000) rfl ⟨(Nat.le_of_ble_eq_true rfl), (Nat.le_of_ble_eq_true rfl)⟩ ⟨rfl, rfl⟩ hl.1 rfl (Nat.le_of_ble_eq_true rfl) ⟨Nat.zero_le _, Nat.zero_le _⟩ dX5_outputOf_108 (fun H locs (w : Wd D (kT cI cO) (va_A _ _) _ _ (mW cI cO a s f R) H locs) => ?_)
        exact x_reti S w hr hlk dX5_outputOf_111 (show o_X5_kept (outF f j) 1000000 = (o_X5_outputOf_5 s f j).1 from (by have h0 := am_0 ham ham3 c_2; rw [kp_6, o_X5_outputOf_5, dsF, if_pos h0]; exact congrArg (fun z => o_X4_limitTo z 1000000) (Int64.add_zero _).symm)) (show mW cI cO a s f R = mW cI cO a (o_X5_outputOf_5 s f j).2 f R from m_s (by have h0 := am_0 ham ham3 c_2; rw [o_X5_outputOf_5, sdF, if_pos h0]; exact upd_self.symm))
      · refine lv_aload_n S.1 S.2.1 dX5_outputOf_62 rfl (lv_at hl 1 rfl) ?_
        refine lv_aload_n S.1 S.2.1 dX5_outputOf_63 rfl (lv_at hl 1 rfl) ?_
        refine mg_18 S w lk_RX5_110 dX5_outputOf_64 ?_
        refine x_ldc S lk_RX5_180 dX5_outputOf_67 ?_
        refine lv_imul S.1 S.2.1 dX5_outputOf_69 ?_
        refine lv_sipush (v := 12345) S.1 S.2.1 dX5_outputOf_70 (by decide) ?_
        refine lv_iadd S.1 S.2.1 dX5_outputOf_73 ?_
        refine mp_18 S w lk_RX5_110 dX5_outputOf_74 (fun H locs (w : Wd D (kT cI cO) (va_A _ _) _ _ (mW cI cO a (upd s 18 (((s 18) * 1103515245) + 12345)) f R) H locs) => ?_)
        refine lv_lload S.1 S.2.1 dX5_outputOf_77 (lv_at hl 0 rfl) ?_
        refine lv_aload_n S.1 S.2.1 dX5_outputOf_79 rfl (lv_at hl 1 rfl) ?_
        refine mg_18 S w lk_RX5_110 dX5_outputOf_80 ?_
        refine x_eqi (x := (upd s 18 (((s 18) * 1103515245) + 12345)) 18) (y := ((s 18) * 1103515245) + 12345) rfl ?_
        refine lv_bipush (v := 16) S.1 S.2.1 dX5_outputOf_83 (by decide) ?_
        refine lv_iushr (v := iush (((s 18) * 1103515245) + 12345) 16) S.1 S.2.1 dX5_outputOf_85 rfl ?_
        refine lv_iconst (v := 2) S.1 S.2.1 dX5_outputOf_86 (by decide) ?_
        refine lv_aload_n S.1 S.2.1 dX5_outputOf_87 rfl (lv_at hl 1 rfl) ?_
        refine mg_17 S w lk_RX5_107 dX5_outputOf_88 ?_
        refine x_eqi (x := (upd s 18 (((s 18) * 1103515245) + 12345)) 17) (y := s 17) rfl ?_
        refine lv_imul S.1 S.2.1 dX5_outputOf_91 ?_
        refine lv_iconst (v := 1) S.1 S.2.1 dX5_outputOf_92 (by decide) ?_
        refine lv_iadd S.1 S.2.1 dX5_outputOf_93 ?_
        refine lv_irem S.1 S.2.1 dX5_outputOf_94 (am_ne ham ham3) ?_
        refine lv_aload_n S.1 S.2.1 dX5_outputOf_95 rfl (lv_at hl 1 rfl) ?_
        refine mg_17 S w lk_RX5_107 dX5_outputOf_96 ?_
        refine x_eqi (x := (upd s 18 (((s 18) * 1103515245) + 12345)) 17) (y := s 17) rfl ?_
        refine lv_isub S.1 S.2.1 dX5_outputOf_99 ?_
        refine lv_i2l S.1 S.2.1 dX5_outputOf_100 rfl ?_
        refine lv_ladd S.1 S.2.1 dX5_outputOf_101 ?_
        refine lv_lstore (lv' := [(4, .long ((outF f j) + (Int32.toInt64 (((iush (((s 18) * 1103515245) + 12345) 16) - (iush (((s 18) * 1103515245) + 12345) 16) / ((2 * (s 17)) + 1) * ((2 * (s 17)) + 1)) - (s 17))))), (0, .ref (a 0)), (1, .int (nI j)), (2, .long (sumL (fun y => Int32.toInt64 (f 6 y) * Int32.toInt64 (f 1 (j - y))) (min j 5 + 1)))]) S.1 S.2.1 dX5_outputOf_102 hl (by decide) rfl (fun ls hl => ?_)
        refine lv_lload S.1 S.2.1 dX5_outputOf_104 (lv_at hl 0 rfl) ?_
        refine x_ldc S lk_RX5_63 dX5_outputOf_106 ?_
        refine x_Si (As := [.long ((outF f j) + (Int32.toInt64 (((iush (((s 18) * 1103515245) + 12345) 16) - (iush (((s 18) * 1103515245) + 12345) 16) / ((2 * (s 17)) + 1) * ((2 * (s 17)) + 1)) - (s 17)))), .int 1000000]) (rest := []) S w (goodS lk_RX5_132 lt_X5_kept ln_RX5 lc_X5_kept) hd_X5_kept (k_X5_kept l _ _ (mW cI cO a (upd s 18 (((s 18) * 1103515245) + 12345)) f R) ((outF f j) + (Int32.toInt64 (((iush (((s 18) * 1103515245) + 12345) 16) - (iush (((s 18) * 1103515245) + 12345) 16) / ((2 * (s 17)) + 1) * ((2 * (s 17)) + 1)) - (s 17)))) 1000000) rfl ⟨(Nat.le_of_ble_eq_true rfl), (Nat.le_of_ble_eq_true rfl)⟩ ⟨rfl, rfl⟩ hl.1 rfl (Nat.le_of_ble_eq_true rfl) ⟨Nat.zero_le _, Nat.zero_le _⟩ dX5_outputOf_108 (fun H locs (w : Wd D (kT cI cO) (va_A _ _) _ _ (mW cI cO a (upd s 18 (((s 18) * 1103515245) + 12345)) f R) H locs) => ?_)
        exact x_reti S w hr hlk dX5_outputOf_111 (show o_X5_kept ((outF f j) + (Int32.toInt64 (((iush (((s 18) * 1103515245) + 12345) 16) - (iush (((s 18) * 1103515245) + 12345) 16) / ((2 * (s 17)) + 1) * ((2 * (s 17)) + 1)) - (s 17)))) 1000000 = (o_X5_outputOf_5 s f j).1 from (by have h0 := am_1 c_2; rw [kp_6, o_X5_outputOf_5, dsF, sdF, if_neg h0, if_neg h0])) (show mW cI cO a (upd s 18 (((s 18) * 1103515245) + 12345)) f R = mW cI cO a (o_X5_outputOf_5 s f j).2 f R from m_s (by have h0 := am_1 c_2; rw [o_X5_outputOf_5, sdF, if_neg h0]))
    · have h6 : i < 6 := Nat.lt_of_not_le (fun z => c_1 (nI_le (a := 6) z (by omega)))
      refine lv_iload S.1 S.2.1 dX5_outputOf_12 (lv_at hl 3 rfl) ?_
      refine lv_iload_n S.1 S.2.1 dX5_outputOf_14 rfl (lv_at hl 1 rfl) ?_
      refine lv_icmp_gt (tgt := 46) S.1 S.2.1 dX5_outputOf_15 (by decide) (fun (c_3 : (nI j) < (nI i)) => ?_) (fun (c_3 : ¬ ((nI j) < (nI i))) => ?_)
      · have he : i = min j 5 + 1 := by
          have := (nI_ltI (a := j) (b := i) (by omega) (by omega)).mp c_3
          omega
        subst i
        refine lv_lload_n S.1 S.2.1 dX5_outputOf_46 rfl (lv_at hl 2 rfl) ?_
        refine x_ldc2 S lk_RX5_123 dX5_outputOf_47 ?_
        refine x_Sl (As := [.long (sumL (fun y => Int32.toInt64 (f 6 y) * Int32.toInt64 (f 1 (j - y))) (min j 5 + 1)), .long 1000]) (rest := []) S w (goodS lk_RX5_125 lt_X5_down ln_RX5 lc_X5_down) hd_X5_down (k_X5_down l _ _ (mW cI cO a s f R) (sumL (fun y => Int32.toInt64 (f 6 y) * Int32.toInt64 (f 1 (j - y))) (min j 5 + 1)) 1000 (by decide)) rfl ⟨(Nat.le_of_ble_eq_true rfl), (Nat.le_of_ble_eq_true rfl)⟩ ⟨rfl, rfl⟩ hl.1 rfl (Nat.le_of_ble_eq_true rfl) ⟨Nat.zero_le _, Nat.zero_le _⟩ dX5_outputOf_50 (fun H locs (w : Wd D (kT cI cO) (va_A _ _) _ _ (mW cI cO a s f R) H locs) => ?_)
        refine x_eql (x := o_X5_down (sumL (fun y => Int32.toInt64 (f 6 y) * Int32.toInt64 (f 1 (j - y))) (min j 5 + 1)) 1000) (y := outF f j) (dn_eq _ _) ?_
        refine lv_lstore (lv' := [(4, .long (outF f j)), (0, .ref (a 0)), (1, .int (nI j)), (2, .long (sumL (fun y => Int32.toInt64 (f 6 y) * Int32.toInt64 (f 1 (j - y))) (min j 5 + 1)))]) S.1 S.2.1 dX5_outputOf_53 hl (by decide) rfl (fun ls hl => ?_)
        refine lv_aload_n S.1 S.2.1 dX5_outputOf_55 rfl (lv_at hl 1 rfl) ?_
        refine mg_17 S w lk_RX5_107 dX5_outputOf_56 ?_
        refine lv_if_le (tgt := 104) S.1 S.2.1 dX5_outputOf_59 (by decide) (fun (c_4 : (s 17) ≤ 0) => ?_) (fun (c_4 : ¬ ((s 17) ≤ 0)) => ?_)
        · refine lv_lload S.1 S.2.1 dX5_outputOf_104 (lv_at hl 0 rfl) ?_
          refine x_ldc S lk_RX5_63 dX5_outputOf_106 ?_
          refine x_Si (As := [.long (outF f j), .int 1000000]) (rest := []) S w (goodS lk_RX5_132 lt_X5_kept ln_RX5 lc_X5_kept) hd_X5_kept (k_X5_kept l _ _ (mW cI cO a s f R) (outF f j) 1000000) rfl ⟨(Nat.le_of_ble_eq_true rfl), (Nat.le_of_ble_eq_true rfl)⟩ ⟨rfl, rfl⟩ hl.1 rfl (Nat.le_of_ble_eq_true rfl) ⟨Nat.zero_le _, Nat.zero_le _⟩ dX5_outputOf_108 (fun H locs (w : Wd D (kT cI cO) (va_A _ _) _ _ (mW cI cO a s f R) H locs) => ?_)
          exact x_reti S w hr hlk dX5_outputOf_111 (show o_X5_kept (outF f j) 1000000 = (o_X5_outputOf_5 s f j).1 from (by have h0 := am_0 ham ham3 c_4; rw [kp_6, o_X5_outputOf_5, dsF, if_pos h0]; exact congrArg (fun z => o_X4_limitTo z 1000000) (Int64.add_zero _).symm)) (show mW cI cO a s f R = mW cI cO a (o_X5_outputOf_5 s f j).2 f R from m_s (by have h0 := am_0 ham ham3 c_4; rw [o_X5_outputOf_5, sdF, if_pos h0]; exact upd_self.symm))
        · refine lv_aload_n S.1 S.2.1 dX5_outputOf_62 rfl (lv_at hl 1 rfl) ?_
          refine lv_aload_n S.1 S.2.1 dX5_outputOf_63 rfl (lv_at hl 1 rfl) ?_
          refine mg_18 S w lk_RX5_110 dX5_outputOf_64 ?_
          refine x_ldc S lk_RX5_180 dX5_outputOf_67 ?_
          refine lv_imul S.1 S.2.1 dX5_outputOf_69 ?_
          refine lv_sipush (v := 12345) S.1 S.2.1 dX5_outputOf_70 (by decide) ?_
          refine lv_iadd S.1 S.2.1 dX5_outputOf_73 ?_
          refine mp_18 S w lk_RX5_110 dX5_outputOf_74 (fun H locs (w : Wd D (kT cI cO) (va_A _ _) _ _ (mW cI cO a (upd s 18 (((s 18) * 1103515245) + 12345)) f R) H locs) => ?_)
          refine lv_lload S.1 S.2.1 dX5_outputOf_77 (lv_at hl 0 rfl) ?_
          refine lv_aload_n S.1 S.2.1 dX5_outputOf_79 rfl (lv_at hl 1 rfl) ?_
          refine mg_18 S w lk_RX5_110 dX5_outputOf_80 ?_
          refine x_eqi (x := (upd s 18 (((s 18) * 1103515245) + 12345)) 18) (y := ((s 18) * 1103515245) + 12345) rfl ?_
          refine lv_bipush (v := 16) S.1 S.2.1 dX5_outputOf_83 (by decide) ?_
          refine lv_iushr (v := iush (((s 18) * 1103515245) + 12345) 16) S.1 S.2.1 dX5_outputOf_85 rfl ?_
          refine lv_iconst (v := 2) S.1 S.2.1 dX5_outputOf_86 (by decide) ?_
          refine lv_aload_n S.1 S.2.1 dX5_outputOf_87 rfl (lv_at hl 1 rfl) ?_
          refine mg_17 S w lk_RX5_107 dX5_outputOf_88 ?_
          refine x_eqi (x := (upd s 18 (((s 18) * 1103515245) + 12345)) 17) (y := s 17) rfl ?_
          refine lv_imul S.1 S.2.1 dX5_outputOf_91 ?_
          refine lv_iconst (v := 1) S.1 S.2.1 dX5_outputOf_92 (by decide) ?_
          refine lv_iadd S.1 S.2.1 dX5_outputOf_93 ?_
          refine lv_irem S.1 S.2.1 dX5_outputOf_94 (am_ne ham ham3) ?_
          refine lv_aload_n S.1 S.2.1 dX5_outputOf_95 rfl (lv_at hl 1 rfl) ?_
          refine mg_17 S w lk_RX5_107 dX5_outputOf_96 ?_
          refine x_eqi (x := (upd s 18 (((s 18) * 1103515245) + 12345)) 17) (y := s 17) rfl ?_
          refine lv_isub S.1 S.2.1 dX5_outputOf_99 ?_
          refine lv_i2l S.1 S.2.1 dX5_outputOf_100 rfl ?_
          refine lv_ladd S.1 S.2.1 dX5_outputOf_101 ?_
          refine lv_lstore (lv' := [(4, .long ((outF f j) + (Int32.toInt64 (((iush (((s 18) * 1103515245) + 12345) 16) - (iush (((s 18) * 1103515245) + 12345) 16) / ((2 * (s 17)) + 1) * ((2 * (s 17)) + 1)) - (s 17))))), (0, .ref (a 0)), (1, .int (nI j)), (2, .long (sumL (fun y => Int32.toInt64 (f 6 y) * Int32.toInt64 (f 1 (j - y))) (min j 5 + 1)))]) S.1 S.2.1 dX5_outputOf_102 hl (by decide) rfl (fun ls hl => ?_)
          refine lv_lload S.1 S.2.1 dX5_outputOf_104 (lv_at hl 0 rfl) ?_
          refine x_ldc S lk_RX5_63 dX5_outputOf_106 ?_
          refine x_Si (As := [.long ((outF f j) + (Int32.toInt64 (((iush (((s 18) * 1103515245) + 12345) 16) - (iush (((s 18) * 1103515245) + 12345) 16) / ((2 * (s 17)) + 1) * ((2 * (s 17)) + 1)) - (s 17)))), .int 1000000]) (rest := []) S w (goodS lk_RX5_132 lt_X5_kept ln_RX5 lc_X5_kept) hd_X5_kept (k_X5_kept l _ _ (mW cI cO a (upd s 18 (((s 18) * 1103515245) + 12345)) f R) ((outF f j) + (Int32.toInt64 (((iush (((s 18) * 1103515245) + 12345) 16) - (iush (((s 18) * 1103515245) + 12345) 16) / ((2 * (s 17)) + 1) * ((2 * (s 17)) + 1)) - (s 17)))) 1000000) rfl ⟨(Nat.le_of_ble_eq_true rfl), (Nat.le_of_ble_eq_true rfl)⟩ ⟨rfl, rfl⟩ hl.1 rfl (Nat.le_of_ble_eq_true rfl) ⟨Nat.zero_le _, Nat.zero_le _⟩ dX5_outputOf_108 (fun H locs (w : Wd D (kT cI cO) (va_A _ _) _ _ (mW cI cO a (upd s 18 (((s 18) * 1103515245) + 12345)) f R) H locs) => ?_)
          exact x_reti S w hr hlk dX5_outputOf_111 (show o_X5_kept ((outF f j) + (Int32.toInt64 (((iush (((s 18) * 1103515245) + 12345) 16) - (iush (((s 18) * 1103515245) + 12345) 16) / ((2 * (s 17)) + 1) * ((2 * (s 17)) + 1)) - (s 17)))) 1000000 = (o_X5_outputOf_5 s f j).1 from (by have h0 := am_1 c_4; rw [kp_6, o_X5_outputOf_5, dsF, sdF, if_neg h0, if_neg h0])) (show mW cI cO a (upd s 18 (((s 18) * 1103515245) + 12345)) f R = mW cI cO a (o_X5_outputOf_5 s f j).2 f R from m_s (by have h0 := am_1 c_4; rw [o_X5_outputOf_5, sdF, if_neg h0]))
      · have hlt : i ≤ j := Nat.le_of_not_lt (fun z => c_3 (nI_lt z (by omega)))
        refine lv_lload_n S.1 S.2.1 dX5_outputOf_18 rfl (lv_at hl 2 rfl) ?_
        refine lv_aload_n S.1 S.2.1 dX5_outputOf_19 rfl (lv_at hl 0 rfl) ?_
        refine mr_7 S w lk_RX5_40 dX5_outputOf_20 ?_
        refine lv_iload S.1 S.2.1 dX5_outputOf_23 (lv_at hl 3 rfl) ?_
        refine x_iald S w 7 0 (g := f 6) (v := (f 6) i) i (by omega) (rfl) (Nat.le_of_ble_eq_true rfl) (mc_7) rfl (rfl) dX5_outputOf_25 ?_
        refine lv_i2l S.1 S.2.1 dX5_outputOf_26 rfl ?_
        refine lv_aload_n S.1 S.2.1 dX5_outputOf_27 rfl (lv_at hl 0 rfl) ?_
        refine mr_2 S w lk_RX5_13 dX5_outputOf_28 ?_
        refine lv_iload_n S.1 S.2.1 dX5_outputOf_31 rfl (lv_at hl 1 rfl) ?_
        refine lv_iload S.1 S.2.1 dX5_outputOf_32 (lv_at hl 3 rfl) ?_
        refine lv_isub S.1 S.2.1 dX5_outputOf_34 ?_
        refine x_eqi (x := (nI j) - (nI i)) (y := nI (j - i)) (pk_sub (by omega)) ?_
        refine x_iald S w 2 0 (g := f 1) (v := (f 1) (j - i)) (j - i) (by omega) (rfl) (Nat.le_of_ble_eq_true rfl) (mc_2) rfl (rfl) dX5_outputOf_35 ?_
        refine lv_i2l S.1 S.2.1 dX5_outputOf_36 rfl ?_
        refine lv_lmul S.1 S.2.1 dX5_outputOf_37 ?_
        refine lv_ladd S.1 S.2.1 dX5_outputOf_38 ?_
        refine lv_lstore_n (lv' := [(2, .long ((sumL (fun y => Int32.toInt64 (f 6 y) * Int32.toInt64 (f 1 (j - y))) i) + ((Int32.toInt64 ((f 6) i)) * (Int32.toInt64 ((f 1) (j - i)))))), (0, .ref (a 0)), (1, .int (nI j)), (4, .int (nI i))]) S.1 S.2.1 dX5_outputOf_39 rfl hl (by decide) rfl (fun ls hl => ?_)
        refine lv_iinc (v := nI (i + 1)) (lv' := [(4, .int (nI (i + 1))), (2, .long ((sumL (fun y => Int32.toInt64 (f 6 y) * Int32.toInt64 (f 1 (j - y))) i) + ((Int32.toInt64 ((f 6) i)) * (Int32.toInt64 ((f 1) (j - i)))))), (0, .ref (a 0)), (1, .int (nI j))]) S.1 S.2.1 dX5_outputOf_40 hl (k := 3) rfl (x_inc _) (by decide) rfl (fun ls hl => ?_)
        refine lv_goto (tgt := 5) S.1 S.2.1 dX5_outputOf_43 (by decide) ?_
        exact ih (i + 1) _ _ _ (by omega) (by omega) w (lv_sub hl [2, 3, 1, 0] rfl)
def o_X5_outputOf (s : Nat → Int32) (f : Nat → Nat → Int32) (j : Nat) : Int32 × (Nat → Int32) := (o_X4_limitTo (outF f j + Int32.toInt64 (dsF s)) 1000000, upd s 18 (sdF s))
set_option maxHeartbeats 4000000 in
set_option maxRecDepth 100000 in
theorem k_X5_outputOf (l : Launch) (D : va_G) (cI cO : ClassId) (a : Nat → Nat) (R : va_W) (s : Nat → Int32) (f : Nat → Nat → Int32) (j : Nat) (am : Nat) (hj : j < 48) (ham : s 17 = nI am) (ham3 : am ≤ 1000) : Mi l yX5_outputOf cX5_outputOf 6 (some .int) { frames := 1, cells := 0, slots := 0, locals := 25 } D (kT cI cO) (mW cI cO a s f R) [.ref (a 0), .int (nI j)] (mW cI cO a (o_X5_outputOf s f j).2 f R) (o_X5_outputOf s f j).1 := by
  intro sz
  refine ent (by decide +kernel) (Nat.le_of_ble_eq_true rfl) ?_
  intro p e st m below meth c ls S hr hlk hnm w hsz hl
  have hl : lv_has ls 6 [(0, .ref (a 0)), (1, .int (nI j))] := hl
  refine lv_lconst (v := 0) S.1 S.2.1 dX5_outputOf_0 (by decide) ?_
  refine lv_lstore_n (lv' := [(2, .long 0), (0, .ref (a 0)), (1, .int (nI j))]) S.1 S.2.1 dX5_outputOf_1 rfl hl (by decide) rfl (fun ls hl => ?_)
  refine lv_iconst (v := 0) S.1 S.2.1 dX5_outputOf_2 (by decide) ?_
  refine lv_istore (lv' := [(4, .int 0), (2, .long 0), (0, .ref (a 0)), (1, .int (nI j))]) S.1 S.2.1 dX5_outputOf_3 hl (by decide) rfl (fun ls hl => ?_)
  refine x_toi (show (o_X5_outputOf_5 s f j).1 = (o_X5_outputOf s f j).1 from rfl) (show mW cI cO a (o_X5_outputOf_5 s f j).2 f R = mW cI cO a (o_X5_outputOf s f j).2 f R from rfl) ?_
  exact j_X5_outputOf_5 l D cI cO a R s f j am hj ham ham3 S hr hlk (min j 5 + 2) 0 _ _ _ (by omega) (by omega) w (lv_sub hl [2, 3, 1, 0] rfl)
theorem lim_in (v : Int64) : ¬ wIn (o_X4_limitTo v 1000000) (-1000000) 1000000 = 0 := by
  have e1 : (Int32.toInt64 1000000).toInt = 1000000 := by decide
  have e2 : (Int32.toInt64 (-1000000)).toInt = -1000000 := by decide
  have key : -1000000 ≤ (o_X4_limitTo v 1000000).toInt ∧ (o_X4_limitTo v 1000000).toInt ≤ 1000000 := by
    unfold o_X4_limitTo lmax lmin
    simp only [Int64.lt_iff_toInt_lt, e1]
    by_cases g1 : v.toInt < 1000000
    · rw [if_pos g1]
      by_cases g2 : v.toInt < (Int32.toInt64 (-1000000)).toInt
      · rw [if_pos g2, Int32.toInt32_toInt64]; decide
      · rw [if_neg g2, Int64.toInt_toInt32, Int.bmod_eq_of_le (by omega) (by omega)]
        omega
    · rw [if_neg g1, e1, if_neg (by omega), Int32.toInt32_toInt64]; decide
  unfold wIn
  rw [if_neg, if_neg]
  · decide
  · rw [Int32.lt_iff_toInt_lt]; have : (1000000 : Int32).toInt = 1000000 := by decide
    omega
  · rw [Int32.lt_iff_toInt_lt]; have : (-1000000 : Int32).toInt = -1000000 := by decide
    omega
theorem fin_s (s : Nat → Int32) (f : Nat → Nat → Int32) (N K d b mm G : Nat) {i : Nat} (h : i ≠ 16 ∧ i ≠ 21 ∧ i ≠ 22) (h1 : i ≠ 1 ∧ i ≠ 15) : (o_X5_finish s f N K d b mm G).1 i = upd s 19 (nI (K + 1)) i := by
  unfold o_X5_finish o_X5_finish_13
  split
  · exact rt_s _ _ _ _ h
  · split
    · exact rt_s _ _ _ _ h
    · unfold o_X5_finish_129
      simp only [upd, h.1, h1.1, h1.2, if_false]
      exact rt_s _ _ _ _ h
/-- a sample of a simulated trial, by the reference -/
def stmF (N K d b mm G k : Nat) (u : (Nat → Int32) × (Nat → Nat → Int32)) : (Nat → Int32) × (Nat → Nat → Int32) := (o_X5_record (upd u.1 18 (sdF u.1)) u.2 N K d b mm G k (o_X4_limitTo (outF u.2 k + Int32.toInt64 (dsF u.1)) 1000000)).2
def simM (s : Nat → Int32) (f : Nat → Nat → Int32) (N K d b mm G i : Nat) : (Nat → Int32) × (Nat → Nat → Int32) := itk (stmF N K d b mm G) i (s, f)
def staM (s : Nat → Int32) : Nat → Int32 := upd (upd (upd s 11 1) 12 0) 13 (s 13 + 1)
def triM (s : Nat → Int32) (f : Nat → Nat → Int32) (N K d b mm G t : Nat) : (Nat → Int32) × (Nat → Nat → Int32) := itk (fun k u => simM (staM u.1) u.2 N (K + k) d b mm G N) t (s, f)
def smM (s : Nat → Int32) (f : Nat → Nat → Int32) (N K d b mm G t i : Nat) : (Nat → Int32) × (Nat → Nat → Int32) := simM (staM (triM s f N K d b mm G t).1) (triM s f N K d b mm G t).2 N (K + t) d b mm G i
theorem sm_nx (s : Nat → Int32) (f : Nat → Nat → Int32) (N K d b mm G t : Nat) : smM s f N K d b mm G (t + 1) 0 = (staM (smM s f N K d b mm G t N).1, (smM s f N K d b mm G t N).2) := rfl
theorem sm_up (s : Nat → Int32) (f : Nat → Nat → Int32) (N K d b mm G t i : Nat) : smM s f N K d b mm G t (i + 1) = stmF N (K + t) d b mm G i (smM s f N K d b mm G t i) := rfl
theorem rec_lt {s : Nat → Int32} {f : Nat → Nat → Int32} {N K d b mm G cc : Nat} {v : Int64} (h48 : N ≤ 48) (h11 : ¬ s 11 = 0) (h : cc + 1 < N) : (o_X5_record s f N K d b mm G cc (o_X4_limitTo v 1000000)).2 = (upd s 12 (nI (cc + 1)), va_up f 3 (upd (f 3) cc (o_X4_limitTo v 1000000))) := by
  unfold o_X5_record
  rw [if_neg h11, if_neg (lim_in v), if_neg (fun z => by have := (nI_leI (a := N) (b := cc + 1) (by omega) (by omega)).mp z; omega)]
theorem rec_ge {s : Nat → Int32} {f : Nat → Nat → Int32} {N K d b mm G cc : Nat} {v : Int64} (h48 : N ≤ 48) (h11 : ¬ s 11 = 0) (hc : cc < N) (h : ¬ cc + 1 < N) : (o_X5_record s f N K d b mm G cc (o_X4_limitTo v 1000000)).2 = o_X5_finish (upd (upd s 12 (nI (cc + 1))) 11 0) (va_up f 3 (upd (f 3) cc (o_X4_limitTo v 1000000))) N K d b mm G := by
  unfold o_X5_record
  rw [if_neg h11, if_neg (lim_in v), if_pos (nI_le (by omega) (by omega))]
theorem sm_s {s : Nat → Int32} {f : Nat → Nat → Int32} {N K d b mm G : Nat} (h48 : N ≤ 48) (h11 : s 11 = 1) : ∀ i, i < N → ∀ j, j ≠ 12 ∧ j ≠ 18 → (simM s f N K d b mm G i).1 j = s j := by
  intro i
  induction i with
  | zero => intro _ j _; rfl
  | succ i ih =>
    intro h j hj
    show (stmF N K d b mm G i (simM s f N K d b mm G i)).1 j = s j
    have e := ih (by omega)
    unfold stmF
    rw [rec_lt h48 (by show ¬ (simM s f N K d b mm G i).1 11 = 0; rw [e 11 (by decide), h11]; decide) h]
    simp only [upd, hj.1, hj.2, if_false]
    exact e j hj
theorem sm_12 {s : Nat → Int32} {f : Nat → Nat → Int32} {N K d b mm G : Nat} (h48 : N ≤ 48) (h11 : s 11 = 1) (h0 : s 12 = 0) : ∀ i, i < N → (simM s f N K d b mm G i).1 12 = nI i := by
  intro i
  cases i with
  | zero => intro _; exact h0
  | succ i =>
    intro h
    show (stmF N K d b mm G i (simM s f N K d b mm G i)).1 12 = _
    unfold stmF
    rw [rec_lt h48 (by show ¬ (simM s f N K d b mm G i).1 11 = 0; rw [sm_s h48 h11 i (by omega) 11 (by decide), h11]; decide) h]
    rfl
theorem sm_N {s : Nat → Int32} {f : Nat → Nat → Int32} {N K d b mm G : Nat} (h4 : 4 ≤ N) (h48 : N ≤ 48) (h11 : s 11 = 1) {j : Nat} (hj : j ≠ 12 ∧ j ≠ 18) (h : j ≠ 16 ∧ j ≠ 21 ∧ j ≠ 22) (h1 : j ≠ 1 ∧ j ≠ 15) : (simM s f N K d b mm G N).1 j = upd (upd s 11 0) 19 (nI (K + 1)) j := by
  obtain ⟨n, rfl⟩ : ∃ n, N = n + 1 := ⟨N - 1, by omega⟩
  show (stmF (n + 1) K d b mm G n (simM s f (n + 1) K d b mm G n)).1 j = _
  have e := sm_s (s := s) (f := f) (K := K) (d := d) (b := b) (mm := mm) (G := G) h48 h11 n (by omega)
  unfold stmF
  rw [rec_ge h48 (by show ¬ (simM s f (n + 1) K d b mm G n).1 11 = 0; rw [e 11 (by decide), h11]; decide) (by omega) (by omega), fin_s _ _ _ _ _ _ _ _ h h1]
  by_cases h19 : j = 19
  · subst h19; rfl
  · by_cases h11 : j = 11
    · subst h11; rfl
    · simp only [upd, h19, h11, hj.1, hj.2, if_false]
      exact e j hj
theorem tm_s {s : Nat → Int32} {f : Nat → Nat → Int32} {N K d b mm G : Nat} (h4 : 4 ≤ N) (h48 : N ≤ 48) {j : Nat} (hj : j ≠ 12 ∧ j ≠ 18) (h : j ≠ 16 ∧ j ≠ 21 ∧ j ≠ 22) (h1 : j ≠ 1 ∧ j ≠ 15 ∧ j ≠ 11 ∧ j ≠ 13) (h19 : j ≠ 19) : ∀ t, (triM s f N K d b mm G t).1 j = s j := by
  intro t
  induction t with
  | zero => rfl
  | succ t ih =>
    refine (sm_N h4 h48 rfl hj h ⟨h1.1, h1.2.1⟩).trans ?_
    simp only [staM, upd, h1.2.2.1, h1.2.2.2, hj.1, h19, if_false]
    exact ih
theorem tm_19 {s : Nat → Int32} {f : Nat → Nat → Int32} {N K d b mm G : Nat} (hK : s 19 = nI K) (h4 : 4 ≤ N) (h48 : N ≤ 48) : ∀ t, (triM s f N K d b mm G t).1 19 = nI (K + t) := by
  intro t
  cases t with
  | zero => exact hK
  | succ t => exact (sm_N h4 h48 rfl (by decide) (by decide) (by decide)).trans rfl
/-- what a sample before the last one of a trial finds -/
theorem mm_s {s : Nat → Int32} {f : Nat → Nat → Int32} {N K d b mm G t i : Nat} (h4 : 4 ≤ N) (h48 : N ≤ 48) (hi : i < N) {j : Nat} (hj : j ≠ 12 ∧ j ≠ 18) (h : j ≠ 16 ∧ j ≠ 21 ∧ j ≠ 22) (h1 : j ≠ 1 ∧ j ≠ 15 ∧ j ≠ 11 ∧ j ≠ 13) (h19 : j ≠ 19) : (smM s f N K d b mm G t i).1 j = s j := by
  refine (sm_s h48 rfl i hi j hj).trans ?_
  simp only [staM, upd, h1.2.2.1, h1.2.2.2, hj.1, if_false]
  exact tm_s h4 h48 hj h h1 h19 t
theorem mm_19 {s : Nat → Int32} {f : Nat → Nat → Int32} {N K d b mm G t i : Nat} (hK : s 19 = nI K) (h4 : 4 ≤ N) (h48 : N ≤ 48) (hi : i < N) : (smM s f N K d b mm G t i).1 19 = nI (K + t) :=
  (sm_s h48 rfl i hi 19 (by decide)).trans (tm_19 hK h4 h48 t)
theorem mm_12 {s : Nat → Int32} {f : Nat → Nat → Int32} {N K d b mm G t i : Nat} (h48 : N ≤ 48) (hi : i < N) : (smM s f N K d b mm G t i).1 12 = nI i := sm_12 h48 rfl rfl i hi
theorem mm_11 {s : Nat → Int32} {f : Nat → Nat → Int32} {N K d b mm G t i : Nat} (h48 : N ≤ 48) (hi : i < N) : (smM s f N K d b mm G t i).1 11 = 1 := sm_s h48 rfl i hi 11 (by decide)
theorem mm_N11 {s : Nat → Int32} {f : Nat → Nat → Int32} {N K d b mm G t : Nat} (h4 : 4 ≤ N) (h48 : N ≤ 48) : (smM s f N K d b mm G t N).1 11 = 0 := (sm_N h4 h48 rfl (by decide) (by decide) (by decide)).trans rfl
theorem sta_eq {s : Nat → Int32} {f : Nat → Nat → Int32} (h : s 11 = 0) : (o_X5_startTrial s f).2 = staM s := by
  unfold o_X5_startTrial
  rw [if_pos h]; rfl
def o_X5_simulate_35 (s : Nat → Int32) (f : Nat → Nat → Int32) (N : Nat) (K : Nat) (d : Nat) (b : Nat) (mm : Nat) (G : Nat) (q : Int32) : Int32 × (Nat → Int32) × (Nat → Nat → Int32) := (((smM s f N K d b mm G (Int32.toNatClampNeg q - 1) N).2 7) 0, (smM s f N K d b mm G (Int32.toNatClampNeg q - 1) N).1, (smM s f N K d b mm G (Int32.toNatClampNeg q - 1) N).2)
set_option maxHeartbeats 4000000 in
set_option maxRecDepth 100000 in
theorem j_X5_simulate_35 {p : Program} {e : Env} {st : State} {m : MethodId} {args : Array Value} {below : List Frame} {meth : Method} {c : Code} {ws0 : va_W} {sz : Nat} (l : Launch) (D : va_G) (cI cO : ClassId) (a : Nat → Nat) (R : va_W) (s : Nat → Int32) (f : Nat → Nat → Int32) (N : Nat) (K : Nat) (d : Nat) (b : Nat) (mm : Nat) (G : Nat) (wt : Nat) (L : Nat) (am : Nat) (q : Int32) (hN : s 0 = nI N) (h4 : 4 ≤ N) (h48 : N ≤ 48) (hK : s 19 = nI K) (hK2 : K + 21 < 1000000) (hd : s 2 = nI d) (hd8 : d ≤ 8) (hb : s 6 = nI b) (hb1 : 1 ≤ b) (hb10 : b ≤ 10) (hm : s 4 = nI mm) (hm4 : mm ≤ 4) (hG : s 7 = nI G) (hG5 : G ≤ 5) (hw : s 3 = nI wt) (hw3 : wt ≤ 333) (hL : s 5 = nI L) (hL1 : 1 ≤ L) (hL6 : L ≤ 1000000) (ham : s 17 = nI am) (ham3 : am ≤ 1000) (S : CallFix p m c cX5_simulate 3 st args wsL_law RX5) (hr : meth.sig.returnType = (some .int)) (hlk : meth.locks = false) : ∀ (n : Nat) (t : Nat) (i : Nat) (H : Heap) (locs : List Loc) (ls : Array Slot), (Int32.toNatClampNeg q - t) * 50 + (N - i) + 1 ≤ n → 1 ≤ Int32.toNatClampNeg q ∧ Int32.toNatClampNeg q ≤ 20 → t < Int32.toNatClampNeg q → i ≤ N → Wd D (kT cI cO) (va_A ws0 sz) st.heap st (mW cI cO a (smM s f N K d b mm G t i).1 (smM s f N K d b mm G t i).2 R) H locs → lv_has ls 3 [(0, .ref (a 0)), (1, .int (nI (Int32.toNatClampNeg q))), (2, .int (nI t))] → W p l e { frames := 5, cells := 0, slots := 0, locals := 120 } st m args below meth c H locs 0 0 (MQ below (mQi D (kT cI cO) ws0 sz (mW cI cO a (o_X5_simulate_35 s f N K d b mm G q).2.1 (o_X5_simulate_35 s f N K d b mm G q).2.2 R) (o_X5_simulate_35 s f N K d b mm G q).1) args st 0 0 (va_A ws0 sz)) (F0 m 35 ls []) := by
  intro n
  induction n with
  | zero => intro t i H locs ls hfu hq ht hi w hl; exact absurd hfu (by omega)
  | succ n ih =>
    intro t i H locs ls hfu hq ht hi w hl
    refine lv_aload_n S.1 S.2.1 dX5_simulate_35 rfl (lv_at hl 0 rfl) ?_
    refine mg_11 S w lk_RX5_83 dX5_simulate_36 ?_
    refine lv_if_eq (tgt := 58) S.1 S.2.1 dX5_simulate_39 (by decide) (fun (c_1 : ((smM s f N K d b mm G t i).1 11) = 0) => ?_) (fun (c_1 : ¬ (((smM s f N K d b mm G t i).1 11) = 0)) => ?_)
    · have he : i = N := by
        rcases Nat.lt_or_ge i N with z | z
        · have h9 := c_1
          rw [mm_11 h48 z] at h9
          exact absurd h9 (by decide)
        · omega
      subst i
      refine lv_iinc (v := nI (t + 1)) (lv' := [(2, .int (nI (t + 1))), (0, .ref (a 0)), (1, .int (nI (Int32.toNatClampNeg q)))]) S.1 S.2.1 dX5_simulate_58 hl (k := 2) rfl (x_inc _) (by decide) rfl (fun ls hl => ?_)
      refine lv_goto (tgt := 25) S.1 S.2.1 dX5_simulate_61 (by decide) ?_
      refine lv_iload_n S.1 S.2.1 dX5_simulate_25 rfl (lv_at hl 0 rfl) ?_
      refine lv_iload_n S.1 S.2.1 dX5_simulate_26 rfl (lv_at hl 2 rfl) ?_
      refine lv_icmp_ge (tgt := 64) S.1 S.2.1 dX5_simulate_27 (by decide) (fun (c_2 : (nI (Int32.toNatClampNeg q)) ≤ (nI (t + 1))) => ?_) (fun (c_2 : ¬ ((nI (Int32.toNatClampNeg q)) ≤ (nI (t + 1)))) => ?_)
      · have he : t = Int32.toNatClampNeg q - 1 := by
          have := (nI_leI (a := Int32.toNatClampNeg q) (b := t + 1) (by omega) (by omega)).mp c_2
          omega
        subst t
        refine lv_aload_n S.1 S.2.1 dX5_simulate_64 rfl (lv_at hl 1 rfl) ?_
        refine mr_8 S w lk_RX5_28 dX5_simulate_65 ?_
        refine lv_iconst (v := 0) S.1 S.2.1 dX5_simulate_68 (by decide) ?_
        refine x_iald S w 8 0 (g := (smM s f N K d b mm G (Int32.toNatClampNeg q - 1) N).2 7) (v := ((smM s f N K d b mm G (Int32.toNatClampNeg q - 1) N).2 7) 0) 0 (by decide) (rfl) (Nat.le_of_ble_eq_true rfl) (mc_8) rfl (rfl) dX5_simulate_69 ?_
        exact x_reti S w hr hlk dX5_simulate_70 (show ((smM s f N K d b mm G (Int32.toNatClampNeg q - 1) N).2 7) 0 = (o_X5_simulate_35 s f N K d b mm G q).1 from by simp only [o_X5_simulate_35]) (show mW cI cO a (smM s f N K d b mm G (Int32.toNatClampNeg q - 1) N).1 (smM s f N K d b mm G (Int32.toNatClampNeg q - 1) N).2 R = mW cI cO a (o_X5_simulate_35 s f N K d b mm G q).2.1 (o_X5_simulate_35 s f N K d b mm G q).2.2 R from by simp only [o_X5_simulate_35])
      · have hlt2 : t + 1 < Int32.toNatClampNeg q := Nat.lt_of_not_le (fun z => c_2 (nI_le z (by omega)))
        refine lv_aload_n S.1 S.2.1 dX5_simulate_30 rfl (lv_at hl 1 rfl) ?_
        refine x_Vi (As := []) (rest := []) S w (goodV lk_RX5_181 li_X5_startTrial ls_X5_startTrial ln_RX5 lc_X5_startTrial) hV_X5_startTrial (k_X5_startTrial l D cI cO a R (smM s f N K d b mm G t N).1 (smM s f N K d b mm G t N).2) rfl 0 5 rfl rfl mc_0 ⟨(Nat.le_of_ble_eq_true rfl), (Nat.le_of_ble_eq_true rfl)⟩ ⟨rfl, rfl⟩ hl.1 rfl (Nat.le_of_ble_eq_true rfl) ⟨Nat.zero_le _, Nat.zero_le _⟩ dX5_simulate_31 (fun H locs (w : Wd D (kT cI cO) (va_A _ _) _ _ (mW cI cO a (o_X5_startTrial (smM s f N K d b mm G t N).1 (smM s f N K d b mm G t N).2).2 (smM s f N K d b mm G t N).2 R) H locs) => ?_)
        refine lv_pop S.1 S.2.1 dX5_simulate_34 rfl ?_
        exact ih (t + 1) 0 _ _ _ (by omega) hq (by omega) (by omega) (w.to (show mW cI cO a (o_X5_startTrial (smM s f N K d b mm G t N).1 (smM s f N K d b mm G t N).2).2 (smM s f N K d b mm G t N).2 R = mW cI cO a (smM s f N K d b mm G (t + 1) 0).1 (smM s f N K d b mm G (t + 1) 0).2 R from by rw [sm_nx, sta_eq (mm_N11 h4 h48)])) (lv_sub hl [1, 2, 0] rfl)
    · have hlt : i < N := Nat.lt_of_not_le (fun z => c_1 (by (have h9 : i = N := by omega); subst h9; exact mm_N11 h4 h48))
      refine lv_aload_n S.1 S.2.1 dX5_simulate_42 rfl (lv_at hl 0 rfl) ?_
      refine lv_aload_n S.1 S.2.1 dX5_simulate_43 rfl (lv_at hl 0 rfl) ?_
      refine lv_aload_n S.1 S.2.1 dX5_simulate_44 rfl (lv_at hl 0 rfl) ?_
      refine mg_12 S w lk_RX5_86 dX5_simulate_45 ?_
      refine x_eqi (x := (smM s f N K d b mm G t i).1 12) (y := nI i) (mm_12 h48 hlt) ?_
      refine x_Vi (As := [.int (nI i)]) (rest := [.ref (a 0)]) S w (goodV lk_RX5_184 li_X5_outputOf ls_X5_outputOf ln_RX5 lc_X5_outputOf) hV_X5_outputOf (k_X5_outputOf l D cI cO a R (smM s f N K d b mm G t i).1 (smM s f N K d b mm G t i).2 i am (by omega) ((mm_s h4 h48 hlt (by decide) (by decide) (by decide) (by decide)).trans ham : (smM s f N K d b mm G t i).1 17 = _) ham3) rfl 0 5 rfl rfl mc_0 ⟨(Nat.le_of_ble_eq_true rfl), (Nat.le_of_ble_eq_true rfl)⟩ ⟨rfl, rfl⟩ hl.1 rfl (Nat.le_of_ble_eq_true rfl) ⟨Nat.zero_le _, Nat.zero_le _⟩ dX5_simulate_48 (fun H locs (w : Wd D (kT cI cO) (va_A _ _) _ _ (mW cI cO a (upd (smM s f N K d b mm G t i).1 18 (sdF (smM s f N K d b mm G t i).1)) (smM s f N K d b mm G t i).2 R) H locs) => ?_)
      refine x_eqi (x := (o_X5_outputOf (smM s f N K d b mm G t i).1 (smM s f N K d b mm G t i).2 i).1) (y := o_X4_limitTo (outF (smM s f N K d b mm G t i).2 i + Int32.toInt64 (dsF (smM s f N K d b mm G t i).1)) 1000000) rfl ?_
      refine x_Vi (As := [.int (o_X4_limitTo (outF (smM s f N K d b mm G t i).2 i + Int32.toInt64 (dsF (smM s f N K d b mm G t i).1)) 1000000)]) (rest := []) S w (goodV lk_RX5_187 li_X5_record ls_X5_record ln_RX5 lc_X5_record) hV_X5_record (k_X5_record l D cI cO a R (upd (smM s f N K d b mm G t i).1 18 (sdF (smM s f N K d b mm G t i).1)) (smM s f N K d b mm G t i).2 N (K + t) d b mm G i wt L (o_X4_limitTo (outF (smM s f N K d b mm G t i).2 i + Int32.toInt64 (dsF (smM s f N K d b mm G t i).1)) 1000000) ((mm_s h4 h48 hlt (by decide) (by decide) (by decide) (by decide)).trans hN : (smM s f N K d b mm G t i).1 0 = _) h4 h48 (mm_19 hK h4 h48 hlt : (smM s f N K d b mm G t i).1 19 = _) (by omega) ((mm_s h4 h48 hlt (by decide) (by decide) (by decide) (by decide)).trans hd : (smM s f N K d b mm G t i).1 2 = _) hd8 ((mm_s h4 h48 hlt (by decide) (by decide) (by decide) (by decide)).trans hb : (smM s f N K d b mm G t i).1 6 = _) hb1 hb10 ((mm_s h4 h48 hlt (by decide) (by decide) (by decide) (by decide)).trans hm : (smM s f N K d b mm G t i).1 4 = _) hm4 ((mm_s h4 h48 hlt (by decide) (by decide) (by decide) (by decide)).trans hG : (smM s f N K d b mm G t i).1 7 = _) hG5 ((mm_s h4 h48 hlt (by decide) (by decide) (by decide) (by decide)).trans hw : (smM s f N K d b mm G t i).1 3 = _) hw3 ((mm_s h4 h48 hlt (by decide) (by decide) (by decide) (by decide)).trans hL : (smM s f N K d b mm G t i).1 5 = _) hL1 hL6 (mm_12 h48 hlt : (smM s f N K d b mm G t i).1 12 = nI i) (fun _ => hlt)) rfl 0 5 rfl rfl mc_0 ⟨(Nat.le_of_ble_eq_true rfl), (Nat.le_of_ble_eq_true rfl)⟩ ⟨rfl, rfl⟩ hl.1 rfl (Nat.le_of_ble_eq_true rfl) ⟨Nat.zero_le _, Nat.zero_le _⟩ dX5_simulate_51 (fun H locs (w : Wd D (kT cI cO) (va_A _ _) _ _ (mW cI cO a (o_X5_record (upd (smM s f N K d b mm G t i).1 18 (sdF (smM s f N K d b mm G t i).1)) (smM s f N K d b mm G t i).2 N (K + t) d b mm G i (o_X4_limitTo (outF (smM s f N K d b mm G t i).2 i + Int32.toInt64 (dsF (smM s f N K d b mm G t i).1)) 1000000)).2.1 (o_X5_record (upd (smM s f N K d b mm G t i).1 18 (sdF (smM s f N K d b mm G t i).1)) (smM s f N K d b mm G t i).2 N (K + t) d b mm G i (o_X4_limitTo (outF (smM s f N K d b mm G t i).2 i + Int32.toInt64 (dsF (smM s f N K d b mm G t i).1)) 1000000)).2.2 R) H locs) => ?_)
      refine lv_pop S.1 S.2.1 dX5_simulate_54 rfl ?_
      refine lv_goto (tgt := 35) S.1 S.2.1 dX5_simulate_55 (by decide) ?_
      exact ih t (i + 1) _ _ _ (by omega) hq (by omega) (by omega) (w.to (show mW cI cO a (o_X5_record (upd (smM s f N K d b mm G t i).1 18 (sdF (smM s f N K d b mm G t i).1)) (smM s f N K d b mm G t i).2 N (K + t) d b mm G i (o_X4_limitTo (outF (smM s f N K d b mm G t i).2 i + Int32.toInt64 (dsF (smM s f N K d b mm G t i).1)) 1000000)).2.1 (o_X5_record (upd (smM s f N K d b mm G t i).1 18 (sdF (smM s f N K d b mm G t i).1)) (smM s f N K d b mm G t i).2 N (K + t) d b mm G i (o_X4_limitTo (outF (smM s f N K d b mm G t i).2 i + Int32.toInt64 (dsF (smM s f N K d b mm G t i).1)) 1000000)).2.2 R = mW cI cO a (smM s f N K d b mm G t (i + 1)).1 (smM s f N K d b mm G t (i + 1)).2 R from by rw [sm_up]; rfl)) (lv_sub hl [0, 1, 2] rfl)
def o_X5_simulate (s : Nat → Int32) (f : Nat → Nat → Int32) (N : Nat) (K : Nat) (d : Nat) (b : Nat) (mm : Nat) (G : Nat) (q : Int32) : Int32 × (Nat → Int32) × (Nat → Nat → Int32) := if (wIn q 1 20) = 0 then ((-2000000001), s, f) else if (s 11) = 0 then o_X5_simulate_35 s f N K d b mm G q else ((-2000000002), s, f)
set_option maxHeartbeats 4000000 in
set_option maxRecDepth 100000 in
theorem k_X5_simulate (l : Launch) (D : va_G) (cI cO : ClassId) (a : Nat → Nat) (R : va_W) (s : Nat → Int32) (f : Nat → Nat → Int32) (N : Nat) (K : Nat) (d : Nat) (b : Nat) (mm : Nat) (G : Nat) (wt : Nat) (L : Nat) (am : Nat) (q : Int32) (hN : s 0 = nI N) (h4 : 4 ≤ N) (h48 : N ≤ 48) (hK : s 19 = nI K) (hK2 : K + 21 < 1000000) (hd : s 2 = nI d) (hd8 : d ≤ 8) (hb : s 6 = nI b) (hb1 : 1 ≤ b) (hb10 : b ≤ 10) (hm : s 4 = nI mm) (hm4 : mm ≤ 4) (hG : s 7 = nI G) (hG5 : G ≤ 5) (hw : s 3 = nI wt) (hw3 : wt ≤ 333) (hL : s 5 = nI L) (hL1 : 1 ≤ L) (hL6 : L ≤ 1000000) (ham : s 17 = nI am) (ham3 : am ≤ 1000) : Mi l yX5_simulate cX5_simulate 3 (some .int) { frames := 5, cells := 0, slots := 0, locals := 120 } D (kT cI cO) (mW cI cO a s f R) [.ref (a 0), .int q] (mW cI cO a (o_X5_simulate s f N K d b mm G q).2.1 (o_X5_simulate s f N K d b mm G q).2.2 R) (o_X5_simulate s f N K d b mm G q).1 := by
  intro sz
  refine ent (by decide +kernel) (Nat.le_of_ble_eq_true rfl) ?_
  intro p e st m below meth c ls S hr hlk hnm w hsz hl
  have hl : lv_has ls 3 [(0, .ref (a 0)), (1, .int q)] := hl
  refine lv_iload_n S.1 S.2.1 dX5_simulate_0 rfl (lv_at hl 1 rfl) ?_
  refine lv_iconst (v := 1) S.1 S.2.1 dX5_simulate_1 (by decide) ?_
  refine lv_bipush (v := 20) S.1 S.2.1 dX5_simulate_2 (by decide) ?_
  refine x_Si (As := [.int q, .int 1, .int 20]) (rest := []) S w (goodS lk_RX5_113 lt_X5_in ln_RX5 lc_X5_in) hd_X5_in (k_X5_in l _ _ (mW cI cO a s f R) q 1 20) rfl ⟨(Nat.le_of_ble_eq_true rfl), (Nat.le_of_ble_eq_true rfl)⟩ ⟨rfl, rfl⟩ hl.1 rfl (Nat.le_of_ble_eq_true rfl) ⟨Nat.zero_le _, Nat.zero_le _⟩ dX5_simulate_4 (fun H locs (w : Wd D (kT cI cO) (va_A _ _) _ _ (mW cI cO a s f R) H locs) => ?_)
  refine lv_if_ne (tgt := 13) S.1 S.2.1 dX5_simulate_7 (by decide) (fun (c_3 : ¬ (wIn q 1 20) = 0) => ?_) (fun (c_3 : (wIn q 1 20) = 0) => ?_)
  · have hq := wIn_tr c_3
    refine lv_aload_n S.1 S.2.1 dX5_simulate_13 rfl (lv_at hl 0 rfl) ?_
    refine mg_11 S w lk_RX5_83 dX5_simulate_14 ?_
    refine lv_if_eq (tgt := 23) S.1 S.2.1 dX5_simulate_17 (by decide) (fun (c_4 : (s 11) = 0) => ?_) (fun (c_4 : ¬ ((s 11) = 0)) => ?_)
    · refine lv_iconst (v := 0) S.1 S.2.1 dX5_simulate_23 (by decide) ?_
      refine lv_istore_n (lv' := [(2, .int 0), (0, .ref (a 0)), (1, .int q)]) S.1 S.2.1 dX5_simulate_24 rfl hl (by decide) rfl (fun ls hl => ?_)
      refine lv_iload_n S.1 S.2.1 dX5_simulate_25 rfl (lv_at hl 0 rfl) ?_
      refine lv_iload_n S.1 S.2.1 dX5_simulate_26 rfl (lv_at hl 2 rfl) ?_
      refine lv_icmp_ge (tgt := 64) S.1 S.2.1 dX5_simulate_27 (by decide) (fun z => absurd z (fun z => by have := (nI_leI (a := Int32.toNatClampNeg q) (b := 0) (by omega) (by omega)).mp (by rw [← hq.2]; exact z); omega : ¬ (q ≤ 0))) (fun _ => ?_)
      refine lv_aload_n S.1 S.2.1 dX5_simulate_30 rfl (lv_at hl 1 rfl) ?_
      refine x_Vi (As := []) (rest := []) S w (goodV lk_RX5_181 li_X5_startTrial ls_X5_startTrial ln_RX5 lc_X5_startTrial) hV_X5_startTrial (k_X5_startTrial l D cI cO a R s f) rfl 0 5 rfl rfl mc_0 ⟨(Nat.le_of_ble_eq_true rfl), (Nat.le_of_ble_eq_true rfl)⟩ ⟨rfl, rfl⟩ hl.1 rfl (Nat.le_of_ble_eq_true rfl) ⟨Nat.zero_le _, Nat.zero_le _⟩ dX5_simulate_31 (fun H locs (w : Wd D (kT cI cO) (va_A _ _) _ _ (mW cI cO a (o_X5_startTrial s f).2 f R) H locs) => ?_)
      refine lv_pop S.1 S.2.1 dX5_simulate_34 rfl ?_
      refine x_toi (show (o_X5_simulate_35 s f N K d b mm G q).1 = (o_X5_simulate s f N K d b mm G q).1 from by simp only [o_X5_simulate, if_neg c_3, if_pos c_4]) (show mW cI cO a (o_X5_simulate_35 s f N K d b mm G q).2.1 (o_X5_simulate_35 s f N K d b mm G q).2.2 R = mW cI cO a (o_X5_simulate s f N K d b mm G q).2.1 (o_X5_simulate s f N K d b mm G q).2.2 R from by simp only [o_X5_simulate, if_neg c_3, if_pos c_4]) ?_
      exact j_X5_simulate_35 l D cI cO a R s f N K d b mm G wt L am q hN h4 h48 hK hK2 hd hd8 hb hb1 hb10 hm hm4 hG hG5 hw hw3 hL hL1 hL6 ham ham3 S hr hlk (Int32.toNatClampNeg q * 50 + N + 1) 0 0 _ _ _ (by omega) hq.1 (by omega) (by omega) (w.to (show mW cI cO a (o_X5_startTrial s f).2 f R = mW cI cO a (smM s f N K d b mm G 0 0).1 (smM s f N K d b mm G 0 0).2 R from m_s (sta_eq c_4))) (lv_sub hl [1, 2, 0] (by rw [← hq.2]; rfl))
    · refine x_ldc S lk_RX5_164 dX5_simulate_20 ?_
      exact x_reti S w hr hlk dX5_simulate_22 (show (-2000000002) = (o_X5_simulate s f N K d b mm G q).1 from by simp only [o_X5_simulate, if_neg c_3, if_neg c_4]) (show mW cI cO a s f R = mW cI cO a (o_X5_simulate s f N K d b mm G q).2.1 (o_X5_simulate s f N K d b mm G q).2.2 R from by simp only [o_X5_simulate, if_neg c_3, if_neg c_4])
  · refine x_ldc S lk_RX5_117 dX5_simulate_10 ?_
    exact x_reti S w hr hlk dX5_simulate_12 (show (-2000000001) = (o_X5_simulate s f N K d b mm G q).1 from by simp only [o_X5_simulate, if_pos c_3]) (show mW cI cO a s f R = mW cI cO a (o_X5_simulate s f N K d b mm G q).2.1 (o_X5_simulate s f N K d b mm G q).2.2 R from by simp only [o_X5_simulate, if_pos c_3])
def o_X5_suits_4 (s : Nat → Int32) (f : Nat → Nat → Int32) (d : Nat) : Int32 := if 6 ≤ (nI d) then if 1000000 < ((sumL (fun y => if y = d then 0 else Int32.toInt64 (iabs (s 1 * f 6 y))) 6) + (Int32.toInt64 (iabs (1000000 - 0)))) then 0 else 1 else if 1000000 < ((sumL (fun y => if y = d then 0 else Int32.toInt64 (iabs (s 1 * f 6 y))) 6) + (Int32.toInt64 (iabs (1000000 - ((s 1) * ((f 6) d)))))) then 0 else 1
set_option maxHeartbeats 4000000 in
set_option maxRecDepth 100000 in
theorem j_X5_suits_4 {p : Program} {e : Env} {st : State} {m : MethodId} {args : Array Value} {below : List Frame} {meth : Method} {c : Code} {ws0 : va_W} {sz : Nat} (l : Launch) (D : va_G) (cI cO : ClassId) (a : Nat → Nat) (R : va_W) (s : Nat → Int32) (f : Nat → Nat → Int32) (d : Nat) (hd : s 2 = nI d) (hd8 : d ≤ 8) (S : CallFix p m c cX5_suits 4 st args wsL_law RX5) (hr : meth.sig.returnType = (some .int)) (hlk : meth.locks = false) : ∀ (n : Nat) (i : Nat) (H : Heap) (locs : List Loc) (ls : Array Slot), 7 ≤ i + n → i ≤ 6 → Wd D (kT cI cO) (va_A ws0 sz) st.heap st (mW cI cO a s f R) H locs → lv_has ls 4 [(0, .ref (a 0)), (1, .long (sumL (fun y => if y = d then 0 else Int32.toInt64 (iabs (s 1 * f 6 y))) i)), (3, .int (nI i))] → W p l e { frames := 1, cells := 0, slots := 0, locals := 20 } st m args below meth c H locs 0 0 (MQ below (mQi D (kT cI cO) ws0 sz (mW cI cO a s f R) (o_X5_suits_4 s f d)) args st 0 0 (va_A ws0 sz)) (F0 m 4 ls []) := by
  intro n
  induction n with
  | zero => intro i H locs ls hfu hi w hl; exact absurd hfu (by omega)
  | succ n ih =>
    intro i H locs ls hfu hi w hl
    refine lv_iload_n S.1 S.2.1 dX5_suits_4 rfl (lv_at hl 2 rfl) ?_
    refine lv_bipush (v := 6) S.1 S.2.1 dX5_suits_5 (by decide) ?_
    refine lv_icmp_ge (tgt := 46) S.1 S.2.1 dX5_suits_7 (by decide) (fun (c_1 : 6 ≤ (nI i)) => ?_) (fun (c_1 : ¬ (6 ≤ (nI i))) => ?_)
    · have he : i = 6 := by
        have := (nI_leI (a := 6) (b := i) (by omega) (by omega)).mp c_1
        omega
      subst i
      refine x_ldc S lk_RX5_63 dX5_suits_46 ?_
      refine lv_aload_n S.1 S.2.1 dX5_suits_48 rfl (lv_at hl 0 rfl) ?_
      refine mg_2 S w lk_RX5_54 dX5_suits_49 ?_
      refine x_eqi (x := s 2) (y := nI d) (hd) ?_
      refine lv_bipush (v := 6) S.1 S.2.1 dX5_suits_52 (by decide) ?_
      refine lv_icmp_ge (tgt := 74) S.1 S.2.1 dX5_suits_54 (by decide) (fun (c_2 : 6 ≤ (nI d)) => ?_) (fun (c_2 : ¬ (6 ≤ (nI d))) => ?_)
      · refine lv_iconst (v := 0) S.1 S.2.1 dX5_suits_74 (by decide) ?_
        refine lv_isub S.1 S.2.1 dX5_suits_75 ?_
        refine lv_istore_n (lv' := [(3, .int (1000000 - 0)), (0, .ref (a 0)), (1, .long (sumL (fun y => if y = d then 0 else Int32.toInt64 (iabs (s 1 * f 6 y))) 6))]) S.1 S.2.1 dX5_suits_76 rfl hl (by decide) rfl (fun ls hl => ?_)
        refine lv_lload_n S.1 S.2.1 dX5_suits_77 rfl (lv_at hl 2 rfl) ?_
        refine lv_iload_n S.1 S.2.1 dX5_suits_78 rfl (lv_at hl 0 rfl) ?_
        refine x_Si (As := [.int (1000000 - 0)]) (rest := [.long (sumL (fun y => if y = d then 0 else Int32.toInt64 (iabs (s 1 * f 6 y))) 6)]) S w (goodS lk_RX5_140 lt_X5_size ln_RX5 lc_X5_size) hd_X5_size (k_X5_size l _ _ (mW cI cO a s f R) (1000000 - 0)) rfl ⟨(Nat.le_of_ble_eq_true rfl), (Nat.le_of_ble_eq_true rfl)⟩ ⟨rfl, rfl⟩ hl.1 rfl (Nat.le_of_ble_eq_true rfl) ⟨Nat.zero_le _, Nat.zero_le _⟩ dX5_suits_79 (fun H locs (w : Wd D (kT cI cO) (va_A _ _) _ _ (mW cI cO a s f R) H locs) => ?_)
        refine x_eqi (x := o_X5_size (1000000 - 0)) (y := iabs (1000000 - 0)) (sz_eq _) ?_
        refine lv_i2l S.1 S.2.1 dX5_suits_82 rfl ?_
        refine lv_ladd S.1 S.2.1 dX5_suits_83 ?_
        refine x_ldc2 S lk_RX5_190 dX5_suits_84 ?_
        refine x_lif_gt (tgt := 95) S.1 S.2.1 dX5_suits_87 dX5_suits_88 (by decide) (fun (c_3 : 1000000 < ((sumL (fun y => if y = d then 0 else Int32.toInt64 (iabs (s 1 * f 6 y))) 6) + (Int32.toInt64 (iabs (1000000 - 0))))) => ?_) (fun (c_3 : ¬ (1000000 < ((sumL (fun y => if y = d then 0 else Int32.toInt64 (iabs (s 1 * f 6 y))) 6) + (Int32.toInt64 (iabs (1000000 - 0)))))) => ?_)
        · refine lv_iconst (v := 0) S.1 S.2.1 dX5_suits_95 (by decide) ?_
          exact x_reti S w hr hlk dX5_suits_96 (show 0 = o_X5_suits_4 s f d from by simp only [o_X5_suits_4, if_pos c_2, if_pos c_3]) (show mW cI cO a s f R = mW cI cO a s f R from rfl)
        · refine lv_iconst (v := 1) S.1 S.2.1 dX5_suits_91 (by decide) ?_
          refine lv_goto (tgt := 96) S.1 S.2.1 dX5_suits_92 (by decide) ?_
          exact x_reti S w hr hlk dX5_suits_96 (show 1 = o_X5_suits_4 s f d from by simp only [o_X5_suits_4, if_pos c_2, if_neg c_3]) (show mW cI cO a s f R = mW cI cO a s f R from rfl)
      · have hd6 : d < 6 := Nat.lt_of_not_le (fun z => c_2 (nI_le (a := 6) z (by omega)))
        refine lv_aload_n S.1 S.2.1 dX5_suits_57 rfl (lv_at hl 0 rfl) ?_
        refine mg_1 S w lk_RX5_51 dX5_suits_58 ?_
        refine lv_aload_n S.1 S.2.1 dX5_suits_61 rfl (lv_at hl 0 rfl) ?_
        refine mr_7 S w lk_RX5_40 dX5_suits_62 ?_
        refine lv_aload_n S.1 S.2.1 dX5_suits_65 rfl (lv_at hl 0 rfl) ?_
        refine mg_2 S w lk_RX5_54 dX5_suits_66 ?_
        refine x_eqi (x := s 2) (y := nI d) (hd) ?_
        refine x_iald S w 7 0 (g := f 6) (v := (f 6) d) d (by omega) (rfl) (Nat.le_of_ble_eq_true rfl) (mc_7) rfl (rfl) dX5_suits_69 ?_
        refine lv_imul S.1 S.2.1 dX5_suits_70 ?_
        refine lv_goto (tgt := 75) S.1 S.2.1 dX5_suits_71 (by decide) ?_
        refine lv_isub S.1 S.2.1 dX5_suits_75 ?_
        refine lv_istore_n (lv' := [(3, .int (1000000 - ((s 1) * ((f 6) d)))), (0, .ref (a 0)), (1, .long (sumL (fun y => if y = d then 0 else Int32.toInt64 (iabs (s 1 * f 6 y))) 6))]) S.1 S.2.1 dX5_suits_76 rfl hl (by decide) rfl (fun ls hl => ?_)
        refine lv_lload_n S.1 S.2.1 dX5_suits_77 rfl (lv_at hl 2 rfl) ?_
        refine lv_iload_n S.1 S.2.1 dX5_suits_78 rfl (lv_at hl 0 rfl) ?_
        refine x_Si (As := [.int (1000000 - ((s 1) * ((f 6) d)))]) (rest := [.long (sumL (fun y => if y = d then 0 else Int32.toInt64 (iabs (s 1 * f 6 y))) 6)]) S w (goodS lk_RX5_140 lt_X5_size ln_RX5 lc_X5_size) hd_X5_size (k_X5_size l _ _ (mW cI cO a s f R) (1000000 - ((s 1) * ((f 6) d)))) rfl ⟨(Nat.le_of_ble_eq_true rfl), (Nat.le_of_ble_eq_true rfl)⟩ ⟨rfl, rfl⟩ hl.1 rfl (Nat.le_of_ble_eq_true rfl) ⟨Nat.zero_le _, Nat.zero_le _⟩ dX5_suits_79 (fun H locs (w : Wd D (kT cI cO) (va_A _ _) _ _ (mW cI cO a s f R) H locs) => ?_)
        refine x_eqi (x := o_X5_size (1000000 - ((s 1) * ((f 6) d)))) (y := iabs (1000000 - ((s 1) * ((f 6) d)))) (sz_eq _) ?_
        refine lv_i2l S.1 S.2.1 dX5_suits_82 rfl ?_
        refine lv_ladd S.1 S.2.1 dX5_suits_83 ?_
        refine x_ldc2 S lk_RX5_190 dX5_suits_84 ?_
        refine x_lif_gt (tgt := 95) S.1 S.2.1 dX5_suits_87 dX5_suits_88 (by decide) (fun (c_4 : 1000000 < ((sumL (fun y => if y = d then 0 else Int32.toInt64 (iabs (s 1 * f 6 y))) 6) + (Int32.toInt64 (iabs (1000000 - ((s 1) * ((f 6) d))))))) => ?_) (fun (c_4 : ¬ (1000000 < ((sumL (fun y => if y = d then 0 else Int32.toInt64 (iabs (s 1 * f 6 y))) 6) + (Int32.toInt64 (iabs (1000000 - ((s 1) * ((f 6) d)))))))) => ?_)
        · refine lv_iconst (v := 0) S.1 S.2.1 dX5_suits_95 (by decide) ?_
          exact x_reti S w hr hlk dX5_suits_96 (show 0 = o_X5_suits_4 s f d from by simp only [o_X5_suits_4, if_neg c_2, if_pos c_4]) (show mW cI cO a s f R = mW cI cO a s f R from rfl)
        · refine lv_iconst (v := 1) S.1 S.2.1 dX5_suits_91 (by decide) ?_
          refine lv_goto (tgt := 96) S.1 S.2.1 dX5_suits_92 (by decide) ?_
          exact x_reti S w hr hlk dX5_suits_96 (show 1 = o_X5_suits_4 s f d from by simp only [o_X5_suits_4, if_neg c_2, if_neg c_4]) (show mW cI cO a s f R = mW cI cO a s f R from rfl)
    · have hlt : i < 6 := Nat.lt_of_not_le (fun z => c_1 (nI_le z (by omega)))
      refine lv_lload_n S.1 S.2.1 dX5_suits_10 rfl (lv_at hl 1 rfl) ?_
      refine lv_iload_n S.1 S.2.1 dX5_suits_11 rfl (lv_at hl 2 rfl) ?_
      refine lv_aload_n S.1 S.2.1 dX5_suits_12 rfl (lv_at hl 0 rfl) ?_
      refine mg_2 S w lk_RX5_54 dX5_suits_13 ?_
      refine x_eqi (x := s 2) (y := nI d) (hd) ?_
      refine lv_icmp_ne (tgt := 23) S.1 S.2.1 dX5_suits_16 (by decide) (fun (c_5 : ¬ (nI i) = (nI d)) => ?_) (fun (c_5 : (nI i) = (nI d)) => ?_)
      · have hs : sumL (fun y => if y = d then 0 else Int32.toInt64 (iabs (s 1 * f 6 y))) i + Int32.toInt64 (iabs (s 1 * f 6 i)) = sumL (fun y => if y = d then 0 else Int32.toInt64 (iabs (s 1 * f 6 y))) (i + 1) := by
          show _ = sumL (fun y => if y = d then 0 else Int32.toInt64 (iabs (s 1 * f 6 y))) i + (if i = d then 0 else _)
          rw [if_neg (fun z => c_5 (by rw [z]))]
        refine lv_aload_n S.1 S.2.1 dX5_suits_23 rfl (lv_at hl 0 rfl) ?_
        refine mg_1 S w lk_RX5_51 dX5_suits_24 ?_
        refine lv_aload_n S.1 S.2.1 dX5_suits_27 rfl (lv_at hl 0 rfl) ?_
        refine mr_7 S w lk_RX5_40 dX5_suits_28 ?_
        refine lv_iload_n S.1 S.2.1 dX5_suits_31 rfl (lv_at hl 2 rfl) ?_
        refine x_iald S w 7 0 (g := f 6) (v := (f 6) i) i (by omega) (rfl) (Nat.le_of_ble_eq_true rfl) (mc_7) rfl (rfl) dX5_suits_32 ?_
        refine lv_imul S.1 S.2.1 dX5_suits_33 ?_
        refine x_Si (As := [.int ((s 1) * ((f 6) i))]) (rest := [.long (sumL (fun y => if y = d then 0 else Int32.toInt64 (iabs (s 1 * f 6 y))) i)]) S w (goodS lk_RX5_140 lt_X5_size ln_RX5 lc_X5_size) hd_X5_size (k_X5_size l _ _ (mW cI cO a s f R) ((s 1) * ((f 6) i))) rfl ⟨(Nat.le_of_ble_eq_true rfl), (Nat.le_of_ble_eq_true rfl)⟩ ⟨rfl, rfl⟩ hl.1 rfl (Nat.le_of_ble_eq_true rfl) ⟨Nat.zero_le _, Nat.zero_le _⟩ dX5_suits_34 (fun H locs (w : Wd D (kT cI cO) (va_A _ _) _ _ (mW cI cO a s f R) H locs) => ?_)
        refine x_eqi (x := o_X5_size ((s 1) * ((f 6) i))) (y := iabs ((s 1) * ((f 6) i))) (sz_eq _) ?_
        refine lv_i2l S.1 S.2.1 dX5_suits_37 rfl ?_
        refine lv_ladd S.1 S.2.1 dX5_suits_38 ?_
        refine lv_lstore_n (lv' := [(1, .long ((sumL (fun y => if y = d then 0 else Int32.toInt64 (iabs (s 1 * f 6 y))) i) + (Int32.toInt64 (iabs ((s 1) * ((f 6) i)))))), (0, .ref (a 0)), (3, .int (nI i))]) S.1 S.2.1 dX5_suits_39 rfl hl (by decide) rfl (fun ls hl => ?_)
        refine lv_iinc (v := nI (i + 1)) (lv' := [(3, .int (nI (i + 1))), (1, .long ((sumL (fun y => if y = d then 0 else Int32.toInt64 (iabs (s 1 * f 6 y))) i) + (Int32.toInt64 (iabs ((s 1) * ((f 6) i)))))), (0, .ref (a 0))]) S.1 S.2.1 dX5_suits_40 hl (k := 2) rfl (x_inc _) (by decide) rfl (fun ls hl => ?_)
        refine lv_goto (tgt := 4) S.1 S.2.1 dX5_suits_43 (by decide) ?_
        exact ih (i + 1) _ _ _ (by omega) (by omega) w (lv_sub hl [2, 1, 0] (by rw [← hs]; rfl))
      · have hs : sumL (fun y => if y = d then 0 else Int32.toInt64 (iabs (s 1 * f 6 y))) i + 0 = sumL (fun y => if y = d then 0 else Int32.toInt64 (iabs (s 1 * f 6 y))) (i + 1) := by
          have := (nI_eq (a := i) (b := d) (by omega) (by omega)).mp c_5
          show _ = sumL (fun y => if y = d then 0 else Int32.toInt64 (iabs (s 1 * f 6 y))) i + (if i = d then 0 else _)
          rw [if_pos this]
        refine lv_lconst (v := 0) S.1 S.2.1 dX5_suits_19 (by decide) ?_
        refine lv_goto (tgt := 38) S.1 S.2.1 dX5_suits_20 (by decide) ?_
        refine lv_ladd S.1 S.2.1 dX5_suits_38 ?_
        refine lv_lstore_n (lv' := [(1, .long ((sumL (fun y => if y = d then 0 else Int32.toInt64 (iabs (s 1 * f 6 y))) i) + 0)), (0, .ref (a 0)), (3, .int (nI i))]) S.1 S.2.1 dX5_suits_39 rfl hl (by decide) rfl (fun ls hl => ?_)
        refine lv_iinc (v := nI (i + 1)) (lv' := [(3, .int (nI (i + 1))), (1, .long ((sumL (fun y => if y = d then 0 else Int32.toInt64 (iabs (s 1 * f 6 y))) i) + 0)), (0, .ref (a 0))]) S.1 S.2.1 dX5_suits_40 hl (k := 2) rfl (x_inc _) (by decide) rfl (fun ls hl => ?_)
        refine lv_goto (tgt := 4) S.1 S.2.1 dX5_suits_43 (by decide) ?_
        exact ih (i + 1) _ _ _ (by omega) (by omega) w (lv_sub hl [2, 1, 0] (by rw [← hs]; rfl))
def o_X5_suits (s : Nat → Int32) (f : Nat → Nat → Int32) (d : Nat) : Int32 := o_X5_suits_4 s f d
set_option maxHeartbeats 4000000 in
set_option maxRecDepth 100000 in
theorem k_X5_suits (l : Launch) (D : va_G) (cI cO : ClassId) (a : Nat → Nat) (R : va_W) (s : Nat → Int32) (f : Nat → Nat → Int32) (d : Nat) (hd : s 2 = nI d) (hd8 : d ≤ 8) : Mi l yX5_suits cX5_suits 4 (some .int) { frames := 1, cells := 0, slots := 0, locals := 20 } D (kT cI cO) (mW cI cO a s f R) [.ref (a 0)] (mW cI cO a s f R) (o_X5_suits s f d) := by
  intro sz
  refine ent (by decide +kernel) (Nat.le_of_ble_eq_true rfl) ?_
  intro p e st m below meth c ls S hr hlk hnm w hsz hl
  have hl : lv_has ls 4 [(0, .ref (a 0))] := hl
  refine lv_lconst (v := 0) S.1 S.2.1 dX5_suits_0 (by decide) ?_
  refine lv_lstore_n (lv' := [(1, .long 0), (0, .ref (a 0))]) S.1 S.2.1 dX5_suits_1 rfl hl (by decide) rfl (fun ls hl => ?_)
  refine lv_iconst (v := 0) S.1 S.2.1 dX5_suits_2 (by decide) ?_
  refine lv_istore_n (lv' := [(3, .int 0), (1, .long 0), (0, .ref (a 0))]) S.1 S.2.1 dX5_suits_3 rfl hl (by decide) rfl (fun ls hl => ?_)
  refine x_toi (show o_X5_suits_4 s f d = o_X5_suits s f d from by simp only [o_X5_suits]) (show mW cI cO a s f R = mW cI cO a s f R from by simp only [o_X5_suits]) ?_
  exact j_X5_suits_4 l D cI cO a R s f d hd hd8 S hr hlk 7 0 _ _ _ (by omega) (by omega) w (lv_sub hl [2, 1, 0] rfl)
