theorem add_norm (s : Nat → Int32) (f : Nat → Nat → Int32) (N K : Nat) (v : Int32) : (o_X1_add s f N K v).2 7 (K % 5) = nrF f N := by
  simp only [o_X1_add, o_X1_add_23]
  rw [va_un (by decide), va_us, pk_us]
theorem jd_s (s : Nat → Int32) (f : Nat → Nat → Int32) (q : Int32) {i : Nat} (h : i ≠ 16 ∧ i ≠ 20 ∧ i ≠ 21 ∧ i ≠ 22) : (o_X4_judge s f q).1 i = s i := by
  obtain ⟨h1, h2, h3, h4⟩ := h
  unfold o_X4_judge
  split
  · simp only [upd, h1, h2, h3, h4, if_false]
  · split
    · split
      · simp only [upd, h1, if_false]
      · simp only [upd, h1, if_false]
    · simp only [upd, h1, h2, h3, h4, if_false]
def o_X4_completeTrial_27 (s : Nat → Int32) (f : Nat → Nat → Int32) (N : Nat) (K : Nat) (d : Nat) (b : Nat) (mm : Nat) (G : Nat) (v : Int32) : (Nat → Int32) × (Nat → Nat → Int32) := if (s 10) = 0 then ((o_X4_judge (upd (upd s 11 0) 19 (nI (K + 1))) (o_X1_add (upd s 11 0) (va_up f 4 (pfx N (alF f N v) (f 4))) N K v).2 (nrF (va_up f 4 (pfx N (alF f N v) (f 4))) N)).1, o_X4_correct (o_X4_judge (upd (upd s 11 0) 19 (nI (K + 1))) (o_X1_add (upd s 11 0) (va_up f 4 (pfx N (alF f N v) (f 4))) N K v).2 (nrF (va_up f 4 (pfx N (alF f N v) (f 4))) N)).1 (o_X4_judge (upd (upd s 11 0) 19 (nI (K + 1))) (o_X1_add (upd s 11 0) (va_up f 4 (pfx N (alF f N v) (f 4))) N K v).2 (nrF (va_up f 4 (pfx N (alF f N v) (f 4))) N)).2 N N (10 + (slt ((o_X4_judge (upd (upd s 11 0) 19 (nI (K + 1))) (o_X1_add (upd s 11 0) (va_up f 4 (pfx N (alF f N v) (f 4))) N K v).2 (nrF (va_up f 4 (pfx N (alF f N v) (f 4))) N)).1 19) 0)) d b mm 0) else if ((o_X4_judge (upd (upd s 11 0) 19 (nI (K + 1))) (o_X1_add (upd s 11 0) (va_up f 4 (pfx N (alF f N v) (f 4))) N K v).2 (nrF (va_up f 4 (pfx N (alF f N v) (f 4))) N)).1 16) < 2 then ((o_X4_judge (upd (upd s 11 0) 19 (nI (K + 1))) (o_X1_add (upd s 11 0) (va_up f 4 (pfx N (alF f N v) (f 4))) N K v).2 (nrF (va_up f 4 (pfx N (alF f N v) (f 4))) N)).1, o_X4_correct (o_X4_judge (upd (upd s 11 0) 19 (nI (K + 1))) (o_X1_add (upd s 11 0) (va_up f 4 (pfx N (alF f N v) (f 4))) N K v).2 (nrF (va_up f 4 (pfx N (alF f N v) (f 4))) N)).1 (o_X4_judge (upd (upd s 11 0) 19 (nI (K + 1))) (o_X1_add (upd s 11 0) (va_up f 4 (pfx N (alF f N v) (f 4))) N K v).2 (nrF (va_up f 4 (pfx N (alF f N v) (f 4))) N)).2 N N (10 + (slt ((o_X4_judge (upd (upd s 11 0) 19 (nI (K + 1))) (o_X1_add (upd s 11 0) (va_up f 4 (pfx N (alF f N v) (f 4))) N K v).2 (nrF (va_up f 4 (pfx N (alF f N v) (f 4))) N)).1 19) 0)) d b mm 0) else (upd (upd (upd (o_X4_judge (upd (upd s 11 0) 19 (nI (K + 1))) (o_X1_add (upd s 11 0) (va_up f 4 (pfx N (alF f N v) (f 4))) N K v).2 (nrF (va_up f 4 (pfx N (alF f N v) (f 4))) N)).1 1 (((o_X4_judge (upd (upd s 11 0) 19 (nI (K + 1))) (o_X1_add (upd s 11 0) (va_up f 4 (pfx N (alF f N v) (f 4))) N K v).2 (nrF (va_up f 4 (pfx N (alF f N v) (f 4))) N)).1 1) / 2)) 16 0) 15 (((o_X4_judge (upd (upd s 11 0) 19 (nI (K + 1))) (o_X1_add (upd s 11 0) (va_up f 4 (pfx N (alF f N v) (f 4))) N K v).2 (nrF (va_up f 4 (pfx N (alF f N v) (f 4))) N)).1 15) + 1), va_up (o_X4_judge (upd (upd s 11 0) 19 (nI (K + 1))) (o_X1_add (upd s 11 0) (va_up f 4 (pfx N (alF f N v) (f 4))) N K v).2 (nrF (va_up f 4 (pfx N (alF f N v) (f 4))) N)).2 1 (va_cpy ((o_X4_judge (upd (upd s 11 0) 19 (nI (K + 1))) (o_X1_add (upd s 11 0) (va_up f 4 (pfx N (alF f N v) (f 4))) N K v).2 (nrF (va_up f 4 (pfx N (alF f N v) (f 4))) N)).2 9) ((o_X4_judge (upd (upd s 11 0) 19 (nI (K + 1))) (o_X1_add (upd s 11 0) (va_up f 4 (pfx N (alF f N v) (f 4))) N K v).2 (nrF (va_up f 4 (pfx N (alF f N v) (f 4))) N)).2 1) 0 0 48))
set_option maxHeartbeats 4000000 in
set_option maxRecDepth 100000 in
theorem j_X4_completeTrial_27 {p : Program} {e : Env} {st : State} {m : MethodId} {args : Array Value} {below : List Frame} {meth : Method} {c : Code} {ws0 : va_W} {sz : Nat} (l : Launch) (D : va_G) (cI cO : ClassId) (a : Nat → Nat) (R : va_W) (s : Nat → Int32) (f : Nat → Nat → Int32) (N : Nat) (K : Nat) (d : Nat) (b : Nat) (mm : Nat) (G : Nat) (hN : s 0 = nI N) (h4 : 4 ≤ N) (h48 : N ≤ 48) (hK : s 19 = nI K) (hK2 : K + 1 < 1000000) (hd : s 2 = nI d) (hd8 : d ≤ 8) (hb : s 6 = nI b) (hb1 : 1 ≤ b) (hb10 : b ≤ 10) (hm : s 4 = nI mm) (hm4 : mm ≤ 4) (hG : s 7 = nI G) (hG5 : G ≤ 5) (S : CallFix p m c cX4_completeTrial 3 st args wsL_law RX4) (hr : meth.sig.returnType = none) (hlk : meth.locks = false) : ∀ (n : Nat) (v : Int32) (i : Nat) (H : Heap) (locs : List Loc) (ls : Array Slot), N + 1 ≤ i + n → i ≤ N → Wd D (kT cI cO) (va_A ws0 sz) st.heap st (xW cI cO a (upd s 11 0) (va_up f 4 (pfx i (alF f N v) (f 4))) R) H locs → lv_has ls 3 [(0, .ref (a 0)), (1, .int v), (2, .int (nI i))] → W p l e { frames := 4, cells := 0, slots := 0, locals := 98 } st m args below meth c H locs 0 0 (MQ below (mQv D (kT cI cO) ws0 sz (xW cI cO a (o_X4_completeTrial_27 s f N K d b mm G v).1 (o_X4_completeTrial_27 s f N K d b mm G v).2 R)) args st 0 0 (va_A ws0 sz)) (F0 m 27 ls []) := by
  intro n
  induction n with
  | zero => intro v i H locs ls hfu hi w hl; exact absurd hfu (by omega)
  | succ n ih =>
    intro v i H locs ls hfu hi w hl
    refine lv_iload_n S.1 S.2.1 dX4_completeTrial_27 rfl (lv_at hl 2 rfl) ?_
    refine lv_aload_n S.1 S.2.1 dX4_completeTrial_28 rfl (lv_at hl 0 rfl) ?_
    refine xr_1 S w lk_RX4_10 dX4_completeTrial_29 ?_
    refine xg_0 S w lk_RX4_65 dX4_completeTrial_32 ?_
    refine x_eqi (x := (upd s 11 0) 0) (y := s 0) rfl ?_
    refine x_eqi (x := s 0) (y := nI N) (hN) ?_
    refine lv_icmp_ge (tgt := 57) S.1 S.2.1 dX4_completeTrial_35 (by decide) (fun (c_1 : (nI N) ≤ (nI i)) => ?_) (fun (c_1 : ¬ ((nI N) ≤ (nI i))) => ?_)
    · have he : i = N := by
        have := (nI_leI (a := N) (b := i) (by omega) (by omega)).mp c_1
        omega
      subst i
      refine lv_aload_n S.1 S.2.1 dX4_completeTrial_57 rfl (lv_at hl 0 rfl) ?_
      refine xr_3 S w lk_RX4_26 dX4_completeTrial_58 ?_
      refine lv_aload_n S.1 S.2.1 dX4_completeTrial_61 rfl (lv_at hl 0 rfl) ?_
      refine xr_5 S w lk_RX4_37 dX4_completeTrial_62 ?_
      refine lv_aload_n S.1 S.2.1 dX4_completeTrial_65 rfl (lv_at hl 0 rfl) ?_
      refine xr_9 S w lk_RX4_50 dX4_completeTrial_66 ?_
      refine lv_aload_n S.1 S.2.1 dX4_completeTrial_69 rfl (lv_at hl 0 rfl) ?_
      refine xr_1 S w lk_RX4_10 dX4_completeTrial_70 ?_
      refine xg_0 S w lk_RX4_65 dX4_completeTrial_73 ?_
      refine x_eqi (x := (upd s 11 0) 0) (y := s 0) rfl ?_
      refine x_eqi (x := s 0) (y := nI N) (hN) ?_
      refine lv_iload_n S.1 S.2.1 dX4_completeTrial_76 rfl (lv_at hl 1 rfl) ?_
      refine x_Vv (As := [.ref (a 5), .ref (a 9), .int (nI N), .int v]) (rest := []) S w (goodV lk_RX4_251 li_X1_add ls_X1_add ln_RX1 lc_X1_add) hV_X1_add (k_X1_add l D cI cO a R (upd s 11 0) (va_up f 4 (pfx N (alF f N v) (f 4))) N K v h4 h48 hK hK2) rfl 3 1 rfl rfl xc_3 ⟨(Nat.le_of_ble_eq_true rfl), (Nat.le_of_ble_eq_true rfl)⟩ ⟨rfl, rfl⟩ hl.1 rfl (Nat.le_of_ble_eq_true rfl) ⟨Nat.zero_le _, Nat.zero_le _⟩ dX4_completeTrial_77 (fun H locs (w : Wd D (kT cI cO) (va_A _ _) _ _ (xW cI cO a (upd (upd s 11 0) 19 (nI (K + 1))) (o_X1_add (upd s 11 0) (va_up f 4 (pfx N (alF f N v) (f 4))) N K v).2 R) H locs) => ?_)
      refine lv_aload_n S.1 S.2.1 dX4_completeTrial_80 rfl (lv_at hl 0 rfl) ?_
      refine lv_aload_n S.1 S.2.1 dX4_completeTrial_81 rfl (lv_at hl 0 rfl) ?_
      refine xr_3 S w lk_RX4_26 dX4_completeTrial_82 ?_
      refine xr_12 S w lk_RX4_155 dX4_completeTrial_85 ?_
      refine lv_aload_n S.1 S.2.1 dX4_completeTrial_88 rfl (lv_at hl 0 rfl) ?_
      refine xr_3 S w lk_RX4_26 dX4_completeTrial_89 ?_
      refine lv_iconst (v := 0) S.1 S.2.1 dX4_completeTrial_92 (by decide) ?_
      refine x_Vi (As := [.int 0]) (rest := [.ref (a 12), .ref (a 0)]) S w (goodV lk_RX4_158 li_X1_slot ls_X1_slot ln_RX1 lc_X1_slot) hV_X1_slot (k_X1_slot l D cI cO a R (upd (upd s 11 0) 19 (nI (K + 1))) (o_X1_add (upd s 11 0) (va_up f 4 (pfx N (alF f N v) (f 4))) N K v).2 (K + 1) 0 0 rfl (by omega) rfl (by omega)) rfl 3 1 rfl rfl xc_3 ⟨(Nat.le_of_ble_eq_true rfl), (Nat.le_of_ble_eq_true rfl)⟩ ⟨rfl, rfl⟩ hl.1 rfl (Nat.le_of_ble_eq_true rfl) ⟨Nat.zero_le _, Nat.zero_le _⟩ dX4_completeTrial_93 (fun H locs (w : Wd D (kT cI cO) (va_A _ _) _ _ (xW cI cO a (upd (upd s 11 0) 19 (nI (K + 1))) (o_X1_add (upd s 11 0) (va_up f 4 (pfx N (alF f N v) (f 4))) N K v).2 R) H locs) => ?_)
      refine x_eqi (x := o_X1_slot (upd (upd s 11 0) 19 (nI (K + 1))) (o_X1_add (upd s 11 0) (va_up f 4 (pfx N (alF f N v) (f 4))) N K v).2 0) (y := nI (slt ((upd (upd s 11 0) 19 (nI (K + 1))) 19) 0)) rfl ?_
      refine x_eqi (x := nI (slt ((upd (upd s 11 0) 19 (nI (K + 1))) 19) 0)) (y := nI (K % 5)) (slt_top (by omega)) ?_
      refine x_iald S w 12 0 (g := (o_X1_add (upd s 11 0) (va_up f 4 (pfx N (alF f N v) (f 4))) N K v).2 7) (v := nrF (va_up f 4 (pfx N (alF f N v) (f 4))) N) (K % 5) (by omega) (rfl) (Nat.le_of_ble_eq_true rfl) (xc_12) rfl (add_norm _ _ _ _ _) dX4_completeTrial_96 ?_
      refine x_Vv (As := [.int (nrF (va_up f 4 (pfx N (alF f N v) (f 4))) N)]) (rest := []) S w (goodV lk_RX4_255 li_X4_judge ls_X4_judge ln_RX4 lc_X4_judge) hV_X4_judge (k_X4_judge l D cI cO a R (upd (upd s 11 0) 19 (nI (K + 1))) (o_X1_add (upd s 11 0) (va_up f 4 (pfx N (alF f N v) (f 4))) N K v).2 (nrF (va_up f 4 (pfx N (alF f N v) (f 4))) N)) rfl 0 4 rfl rfl xc_0 ⟨(Nat.le_of_ble_eq_true rfl), (Nat.le_of_ble_eq_true rfl)⟩ ⟨rfl, rfl⟩ hl.1 rfl (Nat.le_of_ble_eq_true rfl) ⟨Nat.zero_le _, Nat.zero_le _⟩ dX4_completeTrial_97 (fun H locs (w : Wd D (kT cI cO) (va_A _ _) _ _ (xW cI cO a (o_X4_judge (upd (upd s 11 0) 19 (nI (K + 1))) (o_X1_add (upd s 11 0) (va_up f 4 (pfx N (alF f N v) (f 4))) N K v).2 (nrF (va_up f 4 (pfx N (alF f N v) (f 4))) N)).1 (o_X4_judge (upd (upd s 11 0) 19 (nI (K + 1))) (o_X1_add (upd s 11 0) (va_up f 4 (pfx N (alF f N v) (f 4))) N K v).2 (nrF (va_up f 4 (pfx N (alF f N v) (f 4))) N)).2 R) H locs) => ?_)
      refine lv_aload_n S.1 S.2.1 dX4_completeTrial_100 rfl (lv_at hl 0 rfl) ?_
      refine xr_1 S w lk_RX4_10 dX4_completeTrial_101 ?_
      refine xg_10 S w lk_RX4_108 dX4_completeTrial_104 ?_
      refine x_eqi (x := (o_X4_judge (upd (upd s 11 0) 19 (nI (K + 1))) (o_X1_add (upd s 11 0) (va_up f 4 (pfx N (alF f N v) (f 4))) N K v).2 (nrF (va_up f 4 (pfx N (alF f N v) (f 4))) N)).1 10) (y := s 10) (jd_s _ _ _ (by decide)) ?_
      refine lv_if_eq (tgt := 125) S.1 S.2.1 dX4_completeTrial_107 (by decide) (fun (c_2 : (s 10) = 0) => ?_) (fun (c_2 : ¬ ((s 10) = 0)) => ?_)
      · refine lv_aload_n S.1 S.2.1 dX4_completeTrial_125 rfl (lv_at hl 0 rfl) ?_
        refine lv_aload_n S.1 S.2.1 dX4_completeTrial_126 rfl (lv_at hl 0 rfl) ?_
        refine xr_3 S w lk_RX4_26 dX4_completeTrial_127 ?_
        refine lv_iconst (v := 0) S.1 S.2.1 dX4_completeTrial_130 (by decide) ?_
        refine x_Vr (As := [.int 0]) (rest := [.ref (a 0)]) S w (goodV lk_RX4_151 li_X1_errorsOf ls_X1_errorsOf ln_RX1 lc_X1_errorsOf) hV_X1_errorsOf (k_X1_errorsOf l D cI cO a R (o_X4_judge (upd (upd s 11 0) 19 (nI (K + 1))) (o_X1_add (upd s 11 0) (va_up f 4 (pfx N (alF f N v) (f 4))) N K v).2 (nrF (va_up f 4 (pfx N (alF f N v) (f 4))) N)).1 (o_X4_judge (upd (upd s 11 0) 19 (nI (K + 1))) (o_X1_add (upd s 11 0) (va_up f 4 (pfx N (alF f N v) (f 4))) N K v).2 (nrF (va_up f 4 (pfx N (alF f N v) (f 4))) N)).2 (K + 1) 0 0 ((jd_s _ _ _ (by decide)).trans rfl : (o_X4_judge (upd (upd s 11 0) 19 (nI (K + 1))) (o_X1_add (upd s 11 0) (va_up f 4 (pfx N (alF f N v) (f 4))) N K v).2 (nrF (va_up f 4 (pfx N (alF f N v) (f 4))) N)).1 19 = nI (K + 1)) (by omega) rfl (by omega)) rfl 3 1 rfl rfl xc_3 ⟨(Nat.le_of_ble_eq_true rfl), (Nat.le_of_ble_eq_true rfl)⟩ ⟨rfl, rfl⟩ hl.1 rfl (Nat.le_of_ble_eq_true rfl) ⟨Nat.zero_le _, Nat.zero_le _⟩ dX4_completeTrial_131 (fun H locs (w : Wd D (kT cI cO) (va_A _ _) _ _ (xW cI cO a (o_X4_judge (upd (upd s 11 0) 19 (nI (K + 1))) (o_X1_add (upd s 11 0) (va_up f 4 (pfx N (alF f N v) (f 4))) N K v).2 (nrF (va_up f 4 (pfx N (alF f N v) (f 4))) N)).1 (o_X4_judge (upd (upd s 11 0) 19 (nI (K + 1))) (o_X1_add (upd s 11 0) (va_up f 4 (pfx N (alF f N v) (f 4))) N K v).2 (nrF (va_up f 4 (pfx N (alF f N v) (f 4))) N)).2 R) H locs) => ?_)
        refine lv_aload_n S.1 S.2.1 dX4_completeTrial_134 rfl (lv_at hl 0 rfl) ?_
        refine xr_1 S w lk_RX4_10 dX4_completeTrial_135 ?_
        refine xg_0 S w lk_RX4_65 dX4_completeTrial_138 ?_
        refine x_eqi (x := (o_X4_judge (upd (upd s 11 0) 19 (nI (K + 1))) (o_X1_add (upd s 11 0) (va_up f 4 (pfx N (alF f N v) (f 4))) N K v).2 (nrF (va_up f 4 (pfx N (alF f N v) (f 4))) N)).1 0) (y := nI N) ((jd_s _ _ _ (by decide)).trans hN) ?_
        refine lv_iconst (v := 0) S.1 S.2.1 dX4_completeTrial_141 (by decide) ?_
        refine x_Vv (As := [.ref (a (16 + (slt ((o_X4_judge (upd (upd s 11 0) 19 (nI (K + 1))) (o_X1_add (upd s 11 0) (va_up f 4 (pfx N (alF f N v) (f 4))) N K v).2 (nrF (va_up f 4 (pfx N (alF f N v) (f 4))) N)).1 19) 0))), .int (nI N), .int 0]) (rest := []) S w (goodV lk_RX4_261 li_X4_correct ls_X4_correct ln_RX4 lc_X4_correct) hV_X4_correct (k_X4_correct l D cI cO a R (o_X4_judge (upd (upd s 11 0) 19 (nI (K + 1))) (o_X1_add (upd s 11 0) (va_up f 4 (pfx N (alF f N v) (f 4))) N K v).2 (nrF (va_up f 4 (pfx N (alF f N v) (f 4))) N)).1 (o_X4_judge (upd (upd s 11 0) 19 (nI (K + 1))) (o_X1_add (upd s 11 0) (va_up f 4 (pfx N (alF f N v) (f 4))) N K v).2 (nrF (va_up f 4 (pfx N (alF f N v) (f 4))) N)).2 N N (a (16 + (slt ((o_X4_judge (upd (upd s 11 0) 19 (nI (K + 1))) (o_X1_add (upd s 11 0) (va_up f 4 (pfx N (alF f N v) (f 4))) N K v).2 (nrF (va_up f 4 (pfx N (alF f N v) (f 4))) N)).1 19) 0))) (16 + (slt ((o_X4_judge (upd (upd s 11 0) 19 (nI (K + 1))) (o_X1_add (upd s 11 0) (va_up f 4 (pfx N (alF f N v) (f 4))) N K v).2 (nrF (va_up f 4 (pfx N (alF f N v) (f 4))) N)).1 19) 0)) (10 + (slt ((o_X4_judge (upd (upd s 11 0) 19 (nI (K + 1))) (o_X1_add (upd s 11 0) (va_up f 4 (pfx N (alF f N v) (f 4))) N K v).2 (nrF (va_up f 4 (pfx N (alF f N v) (f 4))) N)).1 19) 0)) d b mm 0 ((jd_s _ _ _ (by decide)).trans hN : (o_X4_judge (upd (upd s 11 0) 19 (nI (K + 1))) (o_X1_add (upd s 11 0) (va_up f 4 (pfx N (alF f N v) (f 4))) N K v).2 (nrF (va_up f 4 (pfx N (alF f N v) (f 4))) N)).1 0 = nI N) h4 h48 ((jd_s _ _ _ (by decide)).trans hd : (o_X4_judge (upd (upd s 11 0) 19 (nI (K + 1))) (o_X1_add (upd s 11 0) (va_up f 4 (pfx N (alF f N v) (f 4))) N K v).2 (nrF (va_up f 4 (pfx N (alF f N v) (f 4))) N)).1 2 = nI d) hd8 ((jd_s _ _ _ (by decide)).trans hb : (o_X4_judge (upd (upd s 11 0) 19 (nI (K + 1))) (o_X1_add (upd s 11 0) (va_up f 4 (pfx N (alF f N v) (f 4))) N K v).2 (nrF (va_up f 4 (pfx N (alF f N v) (f 4))) N)).1 6 = nI b) hb1 hb10 ((jd_s _ _ _ (by decide)).trans hm : (o_X4_judge (upd (upd s 11 0) 19 (nI (K + 1))) (o_X1_add (upd s 11 0) (va_up f 4 (pfx N (alF f N v) (f 4))) N K v).2 (nrF (va_up f 4 (pfx N (alF f N v) (f 4))) N)).1 4 = nI mm) hm4 (Nat.le_refl N) (fun _ _ => x_row (slt_lt _ _)) (by omega)) rfl 0 4 rfl rfl xc_0 ⟨(Nat.le_of_ble_eq_true rfl), (Nat.le_of_ble_eq_true rfl)⟩ ⟨rfl, rfl⟩ hl.1 rfl (Nat.le_of_ble_eq_true rfl) ⟨Nat.zero_le _, Nat.zero_le _⟩ dX4_completeTrial_142 (fun H locs (w : Wd D (kT cI cO) (va_A _ _) _ _ (xW cI cO a (o_X4_judge (upd (upd s 11 0) 19 (nI (K + 1))) (o_X1_add (upd s 11 0) (va_up f 4 (pfx N (alF f N v) (f 4))) N K v).2 (nrF (va_up f 4 (pfx N (alF f N v) (f 4))) N)).1 (o_X4_correct (o_X4_judge (upd (upd s 11 0) 19 (nI (K + 1))) (o_X1_add (upd s 11 0) (va_up f 4 (pfx N (alF f N v) (f 4))) N K v).2 (nrF (va_up f 4 (pfx N (alF f N v) (f 4))) N)).1 (o_X4_judge (upd (upd s 11 0) 19 (nI (K + 1))) (o_X1_add (upd s 11 0) (va_up f 4 (pfx N (alF f N v) (f 4))) N K v).2 (nrF (va_up f 4 (pfx N (alF f N v) (f 4))) N)).2 N N (10 + (slt ((o_X4_judge (upd (upd s 11 0) 19 (nI (K + 1))) (o_X1_add (upd s 11 0) (va_up f 4 (pfx N (alF f N v) (f 4))) N K v).2 (nrF (va_up f 4 (pfx N (alF f N v) (f 4))) N)).1 19) 0)) d b mm 0) R) H locs) => ?_)
        exact x_retv S w hr hlk dX4_completeTrial_145 (show xW cI cO a (o_X4_judge (upd (upd s 11 0) 19 (nI (K + 1))) (o_X1_add (upd s 11 0) (va_up f 4 (pfx N (alF f N v) (f 4))) N K v).2 (nrF (va_up f 4 (pfx N (alF f N v) (f 4))) N)).1 (o_X4_correct (o_X4_judge (upd (upd s 11 0) 19 (nI (K + 1))) (o_X1_add (upd s 11 0) (va_up f 4 (pfx N (alF f N v) (f 4))) N K v).2 (nrF (va_up f 4 (pfx N (alF f N v) (f 4))) N)).1 (o_X4_judge (upd (upd s 11 0) 19 (nI (K + 1))) (o_X1_add (upd s 11 0) (va_up f 4 (pfx N (alF f N v) (f 4))) N K v).2 (nrF (va_up f 4 (pfx N (alF f N v) (f 4))) N)).2 N N (10 + (slt ((o_X4_judge (upd (upd s 11 0) 19 (nI (K + 1))) (o_X1_add (upd s 11 0) (va_up f 4 (pfx N (alF f N v) (f 4))) N K v).2 (nrF (va_up f 4 (pfx N (alF f N v) (f 4))) N)).1 19) 0)) d b mm 0) R = xW cI cO a (o_X4_completeTrial_27 s f N K d b mm G v).1 (o_X4_completeTrial_27 s f N K d b mm G v).2 R from by simp only [o_X4_completeTrial_27, if_pos c_2])
      · refine lv_aload_n S.1 S.2.1 dX4_completeTrial_110 rfl (lv_at hl 0 rfl) ?_
        refine xg_16 S w lk_RX4_142 dX4_completeTrial_111 ?_
        refine lv_iconst (v := 2) S.1 S.2.1 dX4_completeTrial_114 (by decide) ?_
        refine lv_icmp_lt (tgt := 125) S.1 S.2.1 dX4_completeTrial_115 (by decide) (fun (c_3 : ((o_X4_judge (upd (upd s 11 0) 19 (nI (K + 1))) (o_X1_add (upd s 11 0) (va_up f 4 (pfx N (alF f N v) (f 4))) N K v).2 (nrF (va_up f 4 (pfx N (alF f N v) (f 4))) N)).1 16) < 2) => ?_) (fun (c_3 : ¬ (((o_X4_judge (upd (upd s 11 0) 19 (nI (K + 1))) (o_X1_add (upd s 11 0) (va_up f 4 (pfx N (alF f N v) (f 4))) N K v).2 (nrF (va_up f 4 (pfx N (alF f N v) (f 4))) N)).1 16) < 2)) => ?_)
        · refine lv_aload_n S.1 S.2.1 dX4_completeTrial_125 rfl (lv_at hl 0 rfl) ?_
          refine lv_aload_n S.1 S.2.1 dX4_completeTrial_126 rfl (lv_at hl 0 rfl) ?_
          refine xr_3 S w lk_RX4_26 dX4_completeTrial_127 ?_
          refine lv_iconst (v := 0) S.1 S.2.1 dX4_completeTrial_130 (by decide) ?_
          refine x_Vr (As := [.int 0]) (rest := [.ref (a 0)]) S w (goodV lk_RX4_151 li_X1_errorsOf ls_X1_errorsOf ln_RX1 lc_X1_errorsOf) hV_X1_errorsOf (k_X1_errorsOf l D cI cO a R (o_X4_judge (upd (upd s 11 0) 19 (nI (K + 1))) (o_X1_add (upd s 11 0) (va_up f 4 (pfx N (alF f N v) (f 4))) N K v).2 (nrF (va_up f 4 (pfx N (alF f N v) (f 4))) N)).1 (o_X4_judge (upd (upd s 11 0) 19 (nI (K + 1))) (o_X1_add (upd s 11 0) (va_up f 4 (pfx N (alF f N v) (f 4))) N K v).2 (nrF (va_up f 4 (pfx N (alF f N v) (f 4))) N)).2 (K + 1) 0 0 ((jd_s _ _ _ (by decide)).trans rfl : (o_X4_judge (upd (upd s 11 0) 19 (nI (K + 1))) (o_X1_add (upd s 11 0) (va_up f 4 (pfx N (alF f N v) (f 4))) N K v).2 (nrF (va_up f 4 (pfx N (alF f N v) (f 4))) N)).1 19 = nI (K + 1)) (by omega) rfl (by omega)) rfl 3 1 rfl rfl xc_3 ⟨(Nat.le_of_ble_eq_true rfl), (Nat.le_of_ble_eq_true rfl)⟩ ⟨rfl, rfl⟩ hl.1 rfl (Nat.le_of_ble_eq_true rfl) ⟨Nat.zero_le _, Nat.zero_le _⟩ dX4_completeTrial_131 (fun H locs (w : Wd D (kT cI cO) (va_A _ _) _ _ (xW cI cO a (o_X4_judge (upd (upd s 11 0) 19 (nI (K + 1))) (o_X1_add (upd s 11 0) (va_up f 4 (pfx N (alF f N v) (f 4))) N K v).2 (nrF (va_up f 4 (pfx N (alF f N v) (f 4))) N)).1 (o_X4_judge (upd (upd s 11 0) 19 (nI (K + 1))) (o_X1_add (upd s 11 0) (va_up f 4 (pfx N (alF f N v) (f 4))) N K v).2 (nrF (va_up f 4 (pfx N (alF f N v) (f 4))) N)).2 R) H locs) => ?_)
          refine lv_aload_n S.1 S.2.1 dX4_completeTrial_134 rfl (lv_at hl 0 rfl) ?_
          refine xr_1 S w lk_RX4_10 dX4_completeTrial_135 ?_
          refine xg_0 S w lk_RX4_65 dX4_completeTrial_138 ?_
          refine x_eqi (x := (o_X4_judge (upd (upd s 11 0) 19 (nI (K + 1))) (o_X1_add (upd s 11 0) (va_up f 4 (pfx N (alF f N v) (f 4))) N K v).2 (nrF (va_up f 4 (pfx N (alF f N v) (f 4))) N)).1 0) (y := nI N) ((jd_s _ _ _ (by decide)).trans hN) ?_
          refine lv_iconst (v := 0) S.1 S.2.1 dX4_completeTrial_141 (by decide) ?_
          refine x_Vv (As := [.ref (a (16 + (slt ((o_X4_judge (upd (upd s 11 0) 19 (nI (K + 1))) (o_X1_add (upd s 11 0) (va_up f 4 (pfx N (alF f N v) (f 4))) N K v).2 (nrF (va_up f 4 (pfx N (alF f N v) (f 4))) N)).1 19) 0))), .int (nI N), .int 0]) (rest := []) S w (goodV lk_RX4_261 li_X4_correct ls_X4_correct ln_RX4 lc_X4_correct) hV_X4_correct (k_X4_correct l D cI cO a R (o_X4_judge (upd (upd s 11 0) 19 (nI (K + 1))) (o_X1_add (upd s 11 0) (va_up f 4 (pfx N (alF f N v) (f 4))) N K v).2 (nrF (va_up f 4 (pfx N (alF f N v) (f 4))) N)).1 (o_X4_judge (upd (upd s 11 0) 19 (nI (K + 1))) (o_X1_add (upd s 11 0) (va_up f 4 (pfx N (alF f N v) (f 4))) N K v).2 (nrF (va_up f 4 (pfx N (alF f N v) (f 4))) N)).2 N N (a (16 + (slt ((o_X4_judge (upd (upd s 11 0) 19 (nI (K + 1))) (o_X1_add (upd s 11 0) (va_up f 4 (pfx N (alF f N v) (f 4))) N K v).2 (nrF (va_up f 4 (pfx N (alF f N v) (f 4))) N)).1 19) 0))) (16 + (slt ((o_X4_judge (upd (upd s 11 0) 19 (nI (K + 1))) (o_X1_add (upd s 11 0) (va_up f 4 (pfx N (alF f N v) (f 4))) N K v).2 (nrF (va_up f 4 (pfx N (alF f N v) (f 4))) N)).1 19) 0)) (10 + (slt ((o_X4_judge (upd (upd s 11 0) 19 (nI (K + 1))) (o_X1_add (upd s 11 0) (va_up f 4 (pfx N (alF f N v) (f 4))) N K v).2 (nrF (va_up f 4 (pfx N (alF f N v) (f 4))) N)).1 19) 0)) d b mm 0 ((jd_s _ _ _ (by decide)).trans hN : (o_X4_judge (upd (upd s 11 0) 19 (nI (K + 1))) (o_X1_add (upd s 11 0) (va_up f 4 (pfx N (alF f N v) (f 4))) N K v).2 (nrF (va_up f 4 (pfx N (alF f N v) (f 4))) N)).1 0 = nI N) h4 h48 ((jd_s _ _ _ (by decide)).trans hd : (o_X4_judge (upd (upd s 11 0) 19 (nI (K + 1))) (o_X1_add (upd s 11 0) (va_up f 4 (pfx N (alF f N v) (f 4))) N K v).2 (nrF (va_up f 4 (pfx N (alF f N v) (f 4))) N)).1 2 = nI d) hd8 ((jd_s _ _ _ (by decide)).trans hb : (o_X4_judge (upd (upd s 11 0) 19 (nI (K + 1))) (o_X1_add (upd s 11 0) (va_up f 4 (pfx N (alF f N v) (f 4))) N K v).2 (nrF (va_up f 4 (pfx N (alF f N v) (f 4))) N)).1 6 = nI b) hb1 hb10 ((jd_s _ _ _ (by decide)).trans hm : (o_X4_judge (upd (upd s 11 0) 19 (nI (K + 1))) (o_X1_add (upd s 11 0) (va_up f 4 (pfx N (alF f N v) (f 4))) N K v).2 (nrF (va_up f 4 (pfx N (alF f N v) (f 4))) N)).1 4 = nI mm) hm4 (Nat.le_refl N) (fun _ _ => x_row (slt_lt _ _)) (by omega)) rfl 0 4 rfl rfl xc_0 ⟨(Nat.le_of_ble_eq_true rfl), (Nat.le_of_ble_eq_true rfl)⟩ ⟨rfl, rfl⟩ hl.1 rfl (Nat.le_of_ble_eq_true rfl) ⟨Nat.zero_le _, Nat.zero_le _⟩ dX4_completeTrial_142 (fun H locs (w : Wd D (kT cI cO) (va_A _ _) _ _ (xW cI cO a (o_X4_judge (upd (upd s 11 0) 19 (nI (K + 1))) (o_X1_add (upd s 11 0) (va_up f 4 (pfx N (alF f N v) (f 4))) N K v).2 (nrF (va_up f 4 (pfx N (alF f N v) (f 4))) N)).1 (o_X4_correct (o_X4_judge (upd (upd s 11 0) 19 (nI (K + 1))) (o_X1_add (upd s 11 0) (va_up f 4 (pfx N (alF f N v) (f 4))) N K v).2 (nrF (va_up f 4 (pfx N (alF f N v) (f 4))) N)).1 (o_X4_judge (upd (upd s 11 0) 19 (nI (K + 1))) (o_X1_add (upd s 11 0) (va_up f 4 (pfx N (alF f N v) (f 4))) N K v).2 (nrF (va_up f 4 (pfx N (alF f N v) (f 4))) N)).2 N N (10 + (slt ((o_X4_judge (upd (upd s 11 0) 19 (nI (K + 1))) (o_X1_add (upd s 11 0) (va_up f 4 (pfx N (alF f N v) (f 4))) N K v).2 (nrF (va_up f 4 (pfx N (alF f N v) (f 4))) N)).1 19) 0)) d b mm 0) R) H locs) => ?_)
          exact x_retv S w hr hlk dX4_completeTrial_145 (show xW cI cO a (o_X4_judge (upd (upd s 11 0) 19 (nI (K + 1))) (o_X1_add (upd s 11 0) (va_up f 4 (pfx N (alF f N v) (f 4))) N K v).2 (nrF (va_up f 4 (pfx N (alF f N v) (f 4))) N)).1 (o_X4_correct (o_X4_judge (upd (upd s 11 0) 19 (nI (K + 1))) (o_X1_add (upd s 11 0) (va_up f 4 (pfx N (alF f N v) (f 4))) N K v).2 (nrF (va_up f 4 (pfx N (alF f N v) (f 4))) N)).1 (o_X4_judge (upd (upd s 11 0) 19 (nI (K + 1))) (o_X1_add (upd s 11 0) (va_up f 4 (pfx N (alF f N v) (f 4))) N K v).2 (nrF (va_up f 4 (pfx N (alF f N v) (f 4))) N)).2 N N (10 + (slt ((o_X4_judge (upd (upd s 11 0) 19 (nI (K + 1))) (o_X1_add (upd s 11 0) (va_up f 4 (pfx N (alF f N v) (f 4))) N K v).2 (nrF (va_up f 4 (pfx N (alF f N v) (f 4))) N)).1 19) 0)) d b mm 0) R = xW cI cO a (o_X4_completeTrial_27 s f N K d b mm G v).1 (o_X4_completeTrial_27 s f N K d b mm G v).2 R from by simp only [o_X4_completeTrial_27, if_neg c_2, if_pos c_3])
        · refine lv_aload_n S.1 S.2.1 dX4_completeTrial_118 rfl (lv_at hl 0 rfl) ?_
          refine x_Vv (As := []) (rest := []) S w (goodV lk_RX4_258 li_X4_fallBack ls_X4_fallBack ln_RX4 lc_X4_fallBack) hV_X4_fallBack (k_X4_fallBack l D cI cO a R (o_X4_judge (upd (upd s 11 0) 19 (nI (K + 1))) (o_X1_add (upd s 11 0) (va_up f 4 (pfx N (alF f N v) (f 4))) N K v).2 (nrF (va_up f 4 (pfx N (alF f N v) (f 4))) N)).1 (o_X4_judge (upd (upd s 11 0) 19 (nI (K + 1))) (o_X1_add (upd s 11 0) (va_up f 4 (pfx N (alF f N v) (f 4))) N K v).2 (nrF (va_up f 4 (pfx N (alF f N v) (f 4))) N)).2) rfl 0 4 rfl rfl xc_0 ⟨(Nat.le_of_ble_eq_true rfl), (Nat.le_of_ble_eq_true rfl)⟩ ⟨rfl, rfl⟩ hl.1 rfl (Nat.le_of_ble_eq_true rfl) ⟨Nat.zero_le _, Nat.zero_le _⟩ dX4_completeTrial_119 (fun H locs (w : Wd D (kT cI cO) (va_A _ _) _ _ (xW cI cO a (upd (upd (upd (o_X4_judge (upd (upd s 11 0) 19 (nI (K + 1))) (o_X1_add (upd s 11 0) (va_up f 4 (pfx N (alF f N v) (f 4))) N K v).2 (nrF (va_up f 4 (pfx N (alF f N v) (f 4))) N)).1 1 (((o_X4_judge (upd (upd s 11 0) 19 (nI (K + 1))) (o_X1_add (upd s 11 0) (va_up f 4 (pfx N (alF f N v) (f 4))) N K v).2 (nrF (va_up f 4 (pfx N (alF f N v) (f 4))) N)).1 1) / 2)) 16 0) 15 (((o_X4_judge (upd (upd s 11 0) 19 (nI (K + 1))) (o_X1_add (upd s 11 0) (va_up f 4 (pfx N (alF f N v) (f 4))) N K v).2 (nrF (va_up f 4 (pfx N (alF f N v) (f 4))) N)).1 15) + 1)) (va_up (o_X4_judge (upd (upd s 11 0) 19 (nI (K + 1))) (o_X1_add (upd s 11 0) (va_up f 4 (pfx N (alF f N v) (f 4))) N K v).2 (nrF (va_up f 4 (pfx N (alF f N v) (f 4))) N)).2 1 (va_cpy ((o_X4_judge (upd (upd s 11 0) 19 (nI (K + 1))) (o_X1_add (upd s 11 0) (va_up f 4 (pfx N (alF f N v) (f 4))) N K v).2 (nrF (va_up f 4 (pfx N (alF f N v) (f 4))) N)).2 9) ((o_X4_judge (upd (upd s 11 0) 19 (nI (K + 1))) (o_X1_add (upd s 11 0) (va_up f 4 (pfx N (alF f N v) (f 4))) N K v).2 (nrF (va_up f 4 (pfx N (alF f N v) (f 4))) N)).2 1) 0 0 48)) R) H locs) => ?_)
          refine lv_goto (tgt := 145) S.1 S.2.1 dX4_completeTrial_122 (by decide) ?_
          exact x_retv S w hr hlk dX4_completeTrial_145 (show xW cI cO a (upd (upd (upd (o_X4_judge (upd (upd s 11 0) 19 (nI (K + 1))) (o_X1_add (upd s 11 0) (va_up f 4 (pfx N (alF f N v) (f 4))) N K v).2 (nrF (va_up f 4 (pfx N (alF f N v) (f 4))) N)).1 1 (((o_X4_judge (upd (upd s 11 0) 19 (nI (K + 1))) (o_X1_add (upd s 11 0) (va_up f 4 (pfx N (alF f N v) (f 4))) N K v).2 (nrF (va_up f 4 (pfx N (alF f N v) (f 4))) N)).1 1) / 2)) 16 0) 15 (((o_X4_judge (upd (upd s 11 0) 19 (nI (K + 1))) (o_X1_add (upd s 11 0) (va_up f 4 (pfx N (alF f N v) (f 4))) N K v).2 (nrF (va_up f 4 (pfx N (alF f N v) (f 4))) N)).1 15) + 1)) (va_up (o_X4_judge (upd (upd s 11 0) 19 (nI (K + 1))) (o_X1_add (upd s 11 0) (va_up f 4 (pfx N (alF f N v) (f 4))) N K v).2 (nrF (va_up f 4 (pfx N (alF f N v) (f 4))) N)).2 1 (va_cpy ((o_X4_judge (upd (upd s 11 0) 19 (nI (K + 1))) (o_X1_add (upd s 11 0) (va_up f 4 (pfx N (alF f N v) (f 4))) N K v).2 (nrF (va_up f 4 (pfx N (alF f N v) (f 4))) N)).2 9) ((o_X4_judge (upd (upd s 11 0) 19 (nI (K + 1))) (o_X1_add (upd s 11 0) (va_up f 4 (pfx N (alF f N v) (f 4))) N K v).2 (nrF (va_up f 4 (pfx N (alF f N v) (f 4))) N)).2 1) 0 0 48)) R = xW cI cO a (o_X4_completeTrial_27 s f N K d b mm G v).1 (o_X4_completeTrial_27 s f N K d b mm G v).2 R from by simp only [o_X4_completeTrial_27, if_neg c_2, if_neg c_3])
    · have hlt : i < N := Nat.lt_of_not_le (fun z => c_1 (nI_le z (by omega)))
      refine lv_aload_n S.1 S.2.1 dX4_completeTrial_38 rfl (lv_at hl 0 rfl) ?_
      refine xr_9 S w lk_RX4_50 dX4_completeTrial_39 ?_
      refine lv_iload_n S.1 S.2.1 dX4_completeTrial_42 rfl (lv_at hl 2 rfl) ?_
      refine lv_aload_n S.1 S.2.1 dX4_completeTrial_43 rfl (lv_at hl 0 rfl) ?_
      refine lv_iload_n S.1 S.2.1 dX4_completeTrial_44 rfl (lv_at hl 2 rfl) ?_
      refine lv_iload_n S.1 S.2.1 dX4_completeTrial_45 rfl (lv_at hl 1 rfl) ?_
      refine lv_iadd S.1 S.2.1 dX4_completeTrial_46 ?_
      refine x_Vi (As := [.int ((nI i) + v)]) (rest := [.int (nI i), .ref (a 9)]) S w (goodV lk_RX4_248 li_X4_rawAt ls_X4_rawAt ln_RX4 lc_X4_rawAt) hV_X4_rawAt (k_X4_rawAt l D cI cO a R (upd s 11 0) (va_up f 4 (pfx i (alF f N v) (f 4))) N ((nI i) + v) hN h4 h48) rfl 0 4 rfl rfl xc_0 ⟨(Nat.le_of_ble_eq_true rfl), (Nat.le_of_ble_eq_true rfl)⟩ ⟨rfl, rfl⟩ hl.1 rfl (Nat.le_of_ble_eq_true rfl) ⟨Nat.zero_le _, Nat.zero_le _⟩ dX4_completeTrial_47 (fun H locs (w : Wd D (kT cI cO) (va_A _ _) _ _ (xW cI cO a (upd s 11 0) (va_up f 4 (pfx i (alF f N v) (f 4))) R) H locs) => ?_)
      refine x_eqi (x := o_X4_rawAt (upd s 11 0) (va_up f 4 (pfx i (alF f N v) (f 4))) N ((nI i) + v)) (y := ((va_up f 4 (pfx i (alF f N v) (f 4))) 3) (rix N ((nI i) + v))) rfl ?_
      refine x_eqi (x := ((va_up f 4 (pfx i (alF f N v) (f 4))) 3) (rix N ((nI i) + v))) (y := alF f N v i) (rfl) ?_
      refine x_iast S w 9 0 (g := pfx i (alF f N v) (f 4)) i (by omega) (rfl) (Nat.le_of_ble_eq_true rfl) (xc_9) rfl (xs_4) dX4_completeTrial_50 (fun H locs (w : Wd D (kT cI cO) (va_A _ _) _ _ (xW cI cO a (upd s 11 0) (va_up (va_up f 4 (pfx i (alF f N v) (f 4))) 4 (upd (pfx i (alF f N v) (f 4)) i (alF f N v i))) R) H locs) => ?_)
      have w := w.to (show xW cI cO a (upd s 11 0) (va_up (va_up f 4 (pfx i (alF f N v) (f 4))) 4 (upd (pfx i (alF f N v) (f 4)) i (alF f N v i))) R = xW cI cO a (upd s 11 0) (va_up f 4 (pfx (i + 1) (alF f N v) (f 4))) R from x_f (va_step' rfl))
      refine lv_iinc (v := nI (i + 1)) (lv' := [(2, .int (nI (i + 1))), (0, .ref (a 0)), (1, .int v)]) S.1 S.2.1 dX4_completeTrial_51 hl (k := 2) rfl (x_inc _) (by decide) rfl (fun ls hl => ?_)
      refine lv_goto (tgt := 27) S.1 S.2.1 dX4_completeTrial_54 (by decide) ?_
      exact ih v (i + 1) _ _ _ (by omega) (by omega) w (lv_sub hl [1, 2, 0] rfl)
def o_X4_completeTrial (s : Nat → Int32) (f : Nat → Nat → Int32) (N : Nat) (K : Nat) (d : Nat) (b : Nat) (mm : Nat) (G : Nat) : (Nat → Int32) × (Nat → Nat → Int32) := if (o_X1_reaches (upd s 11 0) f 0) = 0 then o_X4_completeTrial_27 s f N K d b mm G 0 else o_X4_completeTrial_27 s f N K d b mm G (bst (misf f N) G)
set_option maxHeartbeats 4000000 in
set_option maxRecDepth 100000 in
theorem k_X4_completeTrial (l : Launch) (D : va_G) (cI cO : ClassId) (a : Nat → Nat) (R : va_W) (s : Nat → Int32) (f : Nat → Nat → Int32) (N : Nat) (K : Nat) (d : Nat) (b : Nat) (mm : Nat) (G : Nat) (hN : s 0 = nI N) (h4 : 4 ≤ N) (h48 : N ≤ 48) (hK : s 19 = nI K) (hK2 : K + 1 < 1000000) (hd : s 2 = nI d) (hd8 : d ≤ 8) (hb : s 6 = nI b) (hb1 : 1 ≤ b) (hb10 : b ≤ 10) (hm : s 4 = nI mm) (hm4 : mm ≤ 4) (hG : s 7 = nI G) (hG5 : G ≤ 5) : Mv l yX4_completeTrial cX4_completeTrial 3 none { frames := 4, cells := 0, slots := 0, locals := 98 } D (kT cI cO) (xW cI cO a s f R) [.ref (a 0)] (xW cI cO a (o_X4_completeTrial s f N K d b mm G).1 (o_X4_completeTrial s f N K d b mm G).2 R) := by
  intro sz
  refine ent (by decide +kernel) (Nat.le_of_ble_eq_true rfl) ?_
  intro p e st m below meth c ls S hr hlk hnm w hsz hl
  have hl : lv_has ls 3 [(0, .ref (a 0))] := hl
  refine lv_aload_n S.1 S.2.1 dX4_completeTrial_0 rfl (lv_at hl 0 rfl) ?_
  refine lv_iconst (v := 0) S.1 S.2.1 dX4_completeTrial_1 (by decide) ?_
  refine xp_11 S w (Or.inl rfl) lk_RX4_112 dX4_completeTrial_2 (fun H locs (w : Wd D (kT cI cO) (va_A _ _) _ _ (xW cI cO a (upd s 11 0) f R) H locs) => ?_)
  refine lv_aload_n S.1 S.2.1 dX4_completeTrial_5 rfl (lv_at hl 0 rfl) ?_
  refine xr_3 S w lk_RX4_26 dX4_completeTrial_6 ?_
  refine lv_iconst (v := 0) S.1 S.2.1 dX4_completeTrial_9 (by decide) ?_
  refine x_Vi (As := [.int 0]) (rest := []) S w (goodV lk_RX4_148 li_X1_reaches ls_X1_reaches ln_RX1 lc_X1_reaches) hV_X1_reaches (k_X1_reaches l D cI cO a R (upd s 11 0) f 0) rfl 3 1 rfl rfl xc_3 ⟨(Nat.le_of_ble_eq_true rfl), (Nat.le_of_ble_eq_true rfl)⟩ ⟨rfl, rfl⟩ hl.1 rfl (Nat.le_of_ble_eq_true rfl) ⟨Nat.zero_le _, Nat.zero_le _⟩ dX4_completeTrial_10 (fun H locs (w : Wd D (kT cI cO) (va_A _ _) _ _ (xW cI cO a (upd s 11 0) f R) H locs) => ?_)
  refine lv_if_eq (tgt := 23) S.1 S.2.1 dX4_completeTrial_13 (by decide) (fun (c_4 : (o_X1_reaches (upd s 11 0) f 0) = 0) => ?_) (fun (c_4 : ¬ ((o_X1_reaches (upd s 11 0) f 0) = 0)) => ?_)
  · refine lv_iconst (v := 0) S.1 S.2.1 dX4_completeTrial_23 (by decide) ?_
    refine lv_istore_n (lv' := [(1, .int 0), (0, .ref (a 0))]) S.1 S.2.1 dX4_completeTrial_24 rfl hl (by decide) rfl (fun ls hl => ?_)
    refine lv_iconst (v := 0) S.1 S.2.1 dX4_completeTrial_25 (by decide) ?_
    refine lv_istore_n (lv' := [(2, .int 0), (1, .int 0), (0, .ref (a 0))]) S.1 S.2.1 dX4_completeTrial_26 rfl hl (by decide) rfl (fun ls hl => ?_)
    refine x_tov  (show xW cI cO a (o_X4_completeTrial_27 s f N K d b mm G 0).1 (o_X4_completeTrial_27 s f N K d b mm G 0).2 R = xW cI cO a (o_X4_completeTrial s f N K d b mm G).1 (o_X4_completeTrial s f N K d b mm G).2 R from by simp only [o_X4_completeTrial, if_pos c_4]) ?_
    exact j_X4_completeTrial_27 l D cI cO a R s f N K d b mm G hN h4 h48 hK hK2 hd hd8 hb hb1 hb10 hm hm4 hG hG5 S hr hlk (N + 1) 0 0 _ _ _ (by omega) (by omega) (w.to (show xW cI cO a (upd s 11 0) f R = xW cI cO a (upd s 11 0) (va_up f 4 (pfx 0 (alF f N 0) (f 4))) R from x_f va_first.symm)) (lv_sub hl [2, 1, 0] rfl)
  · have h0K : 0 < K := rch_lt (s := upd s 11 0) (f := f) hK (by omega) (A := 0) rfl (by decide) c_4
    refine lv_aload_n S.1 S.2.1 dX4_completeTrial_16 rfl (lv_at hl 0 rfl) ?_
    refine x_Vi (As := []) (rest := []) S w (goodV lk_RX4_244 li_X4_bestFittingShift ls_X4_bestFittingShift ln_RX4 lc_X4_bestFittingShift) hV_X4_bestFittingShift (k_X4_bestFittingShift l D cI cO a R (upd s 11 0) f N G hN h4 h48 hG hG5) rfl 0 4 rfl rfl xc_0 ⟨(Nat.le_of_ble_eq_true rfl), (Nat.le_of_ble_eq_true rfl)⟩ ⟨rfl, rfl⟩ hl.1 rfl (Nat.le_of_ble_eq_true rfl) ⟨Nat.zero_le _, Nat.zero_le _⟩ dX4_completeTrial_17 (fun H locs (w : Wd D (kT cI cO) (va_A _ _) _ _ (xW cI cO a (upd s 11 0) f R) H locs) => ?_)
    refine x_eqi (x := o_X4_bestFittingShift (upd s 11 0) f N G) (y := bst (misf f N) G) rfl ?_
    refine lv_goto (tgt := 24) S.1 S.2.1 dX4_completeTrial_20 (by decide) ?_
    refine lv_istore_n (lv' := [(1, .int (bst (misf f N) G)), (0, .ref (a 0))]) S.1 S.2.1 dX4_completeTrial_24 rfl hl (by decide) rfl (fun ls hl => ?_)
    refine lv_iconst (v := 0) S.1 S.2.1 dX4_completeTrial_25 (by decide) ?_
    refine lv_istore_n (lv' := [(2, .int 0), (1, .int (bst (misf f N) G)), (0, .ref (a 0))]) S.1 S.2.1 dX4_completeTrial_26 rfl hl (by decide) rfl (fun ls hl => ?_)
    refine x_tov  (show xW cI cO a (o_X4_completeTrial_27 s f N K d b mm G (bst (misf f N) G)).1 (o_X4_completeTrial_27 s f N K d b mm G (bst (misf f N) G)).2 R = xW cI cO a (o_X4_completeTrial s f N K d b mm G).1 (o_X4_completeTrial s f N K d b mm G).2 R from by simp only [o_X4_completeTrial, if_neg c_4]) ?_
    exact j_X4_completeTrial_27 l D cI cO a R s f N K d b mm G hN h4 h48 hK hK2 hd hd8 hb hb1 hb10 hm hm4 hG hG5 S hr hlk (N + 1) (bst (misf f N) G) 0 _ _ _ (by omega) (by omega) (w.to (show xW cI cO a (upd s 11 0) f R = xW cI cO a (upd s 11 0) (va_up f 4 (pfx 0 (alF f N (bst (misf f N) G)) (f 4))) R from x_f va_first.symm)) (lv_sub hl [2, 1, 0] rfl)
theorem ct_27 (s : Nat → Int32) (f : Nat → Nat → Int32) (N K d b mm G : Nat) (v : Int32) {i : Nat} (h : i ≠ 16 ∧ i ≠ 20 ∧ i ≠ 21 ∧ i ≠ 22) (h1 : i ≠ 1 ∧ i ≠ 15) : (o_X4_completeTrial_27 s f N K d b mm G v).1 i = upd (upd s 11 0) 19 (nI (K + 1)) i := by
  unfold o_X4_completeTrial_27
  split
  · exact jd_s _ _ _ h
  · split
    · exact jd_s _ _ _ h
    · simp only [upd, h.1, h1.1, h1.2, if_false]
      exact jd_s _ _ _ h
theorem ct_s (s : Nat → Int32) (f : Nat → Nat → Int32) (N K d b mm G : Nat) {i : Nat} (h : i ≠ 16 ∧ i ≠ 20 ∧ i ≠ 21 ∧ i ≠ 22) (h1 : i ≠ 1 ∧ i ≠ 15) : (o_X4_completeTrial s f N K d b mm G).1 i = upd (upd s 11 0) 19 (nI (K + 1)) i := by
  unfold o_X4_completeTrial
  split
  · exact ct_27 s f N K d b mm G _ h h1
  · exact ct_27 s f N K d b mm G _ h h1
def o_X4_takeOutput (s : Nat → Int32) (f : Nat → Nat → Int32) (N : Nat) (K : Nat) (d : Nat) (b : Nat) (mm : Nat) (G : Nat) (cc : Nat) (v : Int32) : (Nat → Int32) × (Nat → Nat → Int32) := if (nI (cc + 1)) < (nI N) then (upd s 12 (nI (cc + 1)), va_up f 3 (upd (f 3) cc v)) else ((o_X4_completeTrial (upd s 12 (nI (cc + 1))) (va_up f 3 (upd (f 3) cc v)) N K d b mm G).1, (o_X4_completeTrial (upd s 12 (nI (cc + 1))) (va_up f 3 (upd (f 3) cc v)) N K d b mm G).2)
set_option maxHeartbeats 4000000 in
set_option maxRecDepth 100000 in
theorem k_X4_takeOutput (l : Launch) (D : va_G) (cI cO : ClassId) (a : Nat → Nat) (R : va_W) (s : Nat → Int32) (f : Nat → Nat → Int32) (N : Nat) (K : Nat) (d : Nat) (b : Nat) (mm : Nat) (G : Nat) (cc : Nat) (v : Int32) (hN : s 0 = nI N) (h4 : 4 ≤ N) (h48 : N ≤ 48) (hK : s 19 = nI K) (hK2 : K + 1 < 1000000) (hd : s 2 = nI d) (hd8 : d ≤ 8) (hb : s 6 = nI b) (hb1 : 1 ≤ b) (hb10 : b ≤ 10) (hm : s 4 = nI mm) (hm4 : mm ≤ 4) (hG : s 7 = nI G) (hG5 : G ≤ 5) (hc : s 12 = nI cc) (hcN : cc < N) : Mv l yX4_takeOutput cX4_takeOutput 2 none { frames := 5, cells := 0, slots := 0, locals := 120 } D (kT cI cO) (xW cI cO a s f R) [.ref (a 0), .int v] (xW cI cO a (o_X4_takeOutput s f N K d b mm G cc v).1 (o_X4_takeOutput s f N K d b mm G cc v).2 R) := by
  intro sz
  refine ent (by decide +kernel) (Nat.le_of_ble_eq_true rfl) ?_
  intro p e st m below meth c ls S hr hlk hnm w hsz hl
  have hl : lv_has ls 2 [(0, .ref (a 0)), (1, .int v)] := hl
  refine lv_aload_n S.1 S.2.1 dX4_takeOutput_0 rfl (lv_at hl 0 rfl) ?_
  refine xr_8 S w lk_RX4_47 dX4_takeOutput_1 ?_
  refine lv_aload_n S.1 S.2.1 dX4_takeOutput_4 rfl (lv_at hl 0 rfl) ?_
  refine xg_12 S w lk_RX4_126 dX4_takeOutput_5 ?_
  refine x_eqi (x := s 12) (y := nI cc) (hc) ?_
  refine lv_iload_n S.1 S.2.1 dX4_takeOutput_8 rfl (lv_at hl 1 rfl) ?_
  refine x_iast S w 8 0 (g := f 3) cc (by omega) (rfl) (Nat.le_of_ble_eq_true rfl) (xc_8) rfl (xs_3) dX4_takeOutput_9 (fun H locs (w : Wd D (kT cI cO) (va_A _ _) _ _ (xW cI cO a s (va_up f 3 (upd (f 3) cc v)) R) H locs) => ?_)
  refine lv_aload_n S.1 S.2.1 dX4_takeOutput_10 rfl (lv_at hl 0 rfl) ?_
  refine lv_dup S.1 S.2.1 dX4_takeOutput_11 rfl ?_
  refine xg_12 S w lk_RX4_126 dX4_takeOutput_12 ?_
  refine x_eqi (x := s 12) (y := nI cc) (hc) ?_
  refine lv_iconst (v := 1) S.1 S.2.1 dX4_takeOutput_15 (by decide) ?_
  refine lv_iadd S.1 S.2.1 dX4_takeOutput_16 ?_
  refine x_eqi (x := (nI cc) + 1) (y := nI (cc + 1)) (nI_1 cc) ?_
  refine xp_12 S w lk_RX4_126 dX4_takeOutput_17 (fun H locs (w : Wd D (kT cI cO) (va_A _ _) _ _ (xW cI cO a (upd s 12 (nI (cc + 1))) (va_up f 3 (upd (f 3) cc v)) R) H locs) => ?_)
  refine lv_aload_n S.1 S.2.1 dX4_takeOutput_20 rfl (lv_at hl 0 rfl) ?_
  refine xg_12 S w lk_RX4_126 dX4_takeOutput_21 ?_
  refine x_eqi (x := (upd s 12 (nI (cc + 1))) 12) (y := nI (cc + 1)) rfl ?_
  refine lv_aload_n S.1 S.2.1 dX4_takeOutput_24 rfl (lv_at hl 0 rfl) ?_
  refine xr_1 S w lk_RX4_10 dX4_takeOutput_25 ?_
  refine xg_0 S w lk_RX4_65 dX4_takeOutput_28 ?_
  refine x_eqi (x := (upd s 12 (nI (cc + 1))) 0) (y := s 0) rfl ?_
  refine x_eqi (x := s 0) (y := nI N) (hN) ?_
  refine lv_icmp_lt (tgt := 38) S.1 S.2.1 dX4_takeOutput_31 (by decide) (fun (c_1 : (nI (cc + 1)) < (nI N)) => ?_) (fun (c_1 : ¬ ((nI (cc + 1)) < (nI N))) => ?_)
  · exact x_retv S w hr hlk dX4_takeOutput_38 (show xW cI cO a (upd s 12 (nI (cc + 1))) (va_up f 3 (upd (f 3) cc v)) R = xW cI cO a (o_X4_takeOutput s f N K d b mm G cc v).1 (o_X4_takeOutput s f N K d b mm G cc v).2 R from by simp only [o_X4_takeOutput, if_pos c_1])
  · refine lv_aload_n S.1 S.2.1 dX4_takeOutput_34 rfl (lv_at hl 0 rfl) ?_
    refine x_Vv (As := []) (rest := []) S w (goodV lk_RX4_234 li_X4_completeTrial ls_X4_completeTrial ln_RX4 lc_X4_completeTrial) hV_X4_completeTrial (k_X4_completeTrial l D cI cO a R (upd s 12 (nI (cc + 1))) (va_up f 3 (upd (f 3) cc v)) N K d b mm G hN h4 h48 hK hK2 hd hd8 hb hb1 hb10 hm hm4 hG hG5) rfl 0 4 rfl rfl xc_0 ⟨(Nat.le_of_ble_eq_true rfl), (Nat.le_of_ble_eq_true rfl)⟩ ⟨rfl, rfl⟩ hl.1 rfl (Nat.le_of_ble_eq_true rfl) ⟨Nat.zero_le _, Nat.zero_le _⟩ dX4_takeOutput_35 (fun H locs (w : Wd D (kT cI cO) (va_A _ _) _ _ (xW cI cO a (o_X4_completeTrial (upd s 12 (nI (cc + 1))) (va_up f 3 (upd (f 3) cc v)) N K d b mm G).1 (o_X4_completeTrial (upd s 12 (nI (cc + 1))) (va_up f 3 (upd (f 3) cc v)) N K d b mm G).2 R) H locs) => ?_)
    exact x_retv S w hr hlk dX4_takeOutput_38 (show xW cI cO a (o_X4_completeTrial (upd s 12 (nI (cc + 1))) (va_up f 3 (upd (f 3) cc v)) N K d b mm G).1 (o_X4_completeTrial (upd s 12 (nI (cc + 1))) (va_up f 3 (upd (f 3) cc v)) N K d b mm G).2 R = xW cI cO a (o_X4_takeOutput s f N K d b mm G cc v).1 (o_X4_takeOutput s f N K d b mm G cc v).2 R from by simp only [o_X4_takeOutput, if_neg c_1])
theorem tk_lt {s : Nat → Int32} {f : Nat → Nat → Int32} {N K d b mm G cc : Nat} {v : Int32} (h48 : N ≤ 48) (h : cc + 1 < N) : o_X4_takeOutput s f N K d b mm G cc v = (upd s 12 (nI (cc + 1)), va_up f 3 (upd (f 3) cc v)) := by
  unfold o_X4_takeOutput
  rw [if_pos (nI_lt h (by omega))]
theorem tk_ge {s : Nat → Int32} {f : Nat → Nat → Int32} {N K d b mm G cc : Nat} {v : Int32} (h48 : N ≤ 48) (hcN : cc < N) (h : ¬ cc + 1 < N) : o_X4_takeOutput s f N K d b mm G cc v = o_X4_completeTrial (upd s 12 (nI (cc + 1))) (va_up f 3 (upd (f 3) cc v)) N K d b mm G := by
  unfold o_X4_takeOutput
  rw [if_neg (fun z => h ((nI_ltI (by omega) (by omega)).mp z))]
theorem tk_run {s : Nat → Int32} {f : Nat → Nat → Int32} {N K d b mm G cc : Nat} {v : Int32} (h48 : N ≤ 48) (hcN : cc < N) (h : ¬ (o_X4_takeOutput s f N K d b mm G cc v).1 11 = 0) : (o_X4_takeOutput s f N K d b mm G cc v).1 12 = nI (cc + 1) ∧ cc + 1 < N := by
  by_cases h1 : cc + 1 < N
  · rw [tk_lt h48 h1]
    exact ⟨rfl, h1⟩
  · rw [tk_ge h48 hcN h1, ct_s _ _ _ _ _ _ _ _ (by decide) (by decide)] at h
    exact absurd rfl h
def o_X4_record (s : Nat → Int32) (f : Nat → Nat → Int32) (N : Nat) (K : Nat) (d : Nat) (b : Nat) (mm : Nat) (G : Nat) (cc : Nat) (v : Int32) : Int32 × (Nat → Int32) × (Nat → Nat → Int32) := if (s 11) = 0 then ((-2000000003), s, f) else if (wIn v (-1000000) 1000000) = 0 then ((-2000000001), s, f) else if ((o_X4_takeOutput s f N K d b mm G cc v).1 11) = 0 then ((-2000000004), (o_X4_takeOutput s f N K d b mm G cc v).1, (o_X4_takeOutput s f N K d b mm G cc v).2) else (((o_X4_takeOutput s f N K d b mm G cc v).2 1) (cc + 1), (o_X4_takeOutput s f N K d b mm G cc v).1, (o_X4_takeOutput s f N K d b mm G cc v).2)
set_option maxHeartbeats 4000000 in
set_option maxRecDepth 100000 in
theorem k_X4_record (l : Launch) (D : va_G) (cI cO : ClassId) (a : Nat → Nat) (R : va_W) (s : Nat → Int32) (f : Nat → Nat → Int32) (N : Nat) (K : Nat) (d : Nat) (b : Nat) (mm : Nat) (G : Nat) (cc : Nat) (v : Int32) (hN : s 0 = nI N) (h4 : 4 ≤ N) (h48 : N ≤ 48) (hK : s 19 = nI K) (hK2 : K + 1 < 1000000) (hd : s 2 = nI d) (hd8 : d ≤ 8) (hb : s 6 = nI b) (hb1 : 1 ≤ b) (hb10 : b ≤ 10) (hm : s 4 = nI mm) (hm4 : mm ≤ 4) (hG : s 7 = nI G) (hG5 : G ≤ 5) (hc : s 12 = nI cc) (hrun : ¬ s 11 = 0 → cc < N) : Mi l yX4_record cX4_record 2 (some .int) { frames := 6, cells := 0, slots := 0, locals := 141 } D (kT cI cO) (xW cI cO a s f R) [.ref (a 0), .int v] (xW cI cO a (o_X4_record s f N K d b mm G cc v).2.1 (o_X4_record s f N K d b mm G cc v).2.2 R) (o_X4_record s f N K d b mm G cc v).1 := by
  intro sz
  refine ent (by decide +kernel) (Nat.le_of_ble_eq_true rfl) ?_
  intro p e st m below meth c ls S hr hlk hnm w hsz hl
  have hl : lv_has ls 2 [(0, .ref (a 0)), (1, .int v)] := hl
  refine lv_aload_n S.1 S.2.1 dX4_record_0 rfl (lv_at hl 0 rfl) ?_
  refine xg_11 S w lk_RX4_112 dX4_record_1 ?_
  refine lv_if_ne (tgt := 10) S.1 S.2.1 dX4_record_4 (by decide) (fun (c_1 : ¬ (s 11) = 0) => ?_) (fun (c_1 : (s 11) = 0) => ?_)
  · have hcN := hrun c_1
    refine lv_iload_n S.1 S.2.1 dX4_record_10 rfl (lv_at hl 1 rfl) ?_
    refine x_Si (As := [.int v]) (rest := []) S w (goodS lk_RX4_73 lt_X4_isSignal ln_RX4 lc_X4_isSignal) hd_X4_isSignal (k_X4_isSignal l _ _ (xW cI cO a s f R) v) rfl ⟨(Nat.le_of_ble_eq_true rfl), (Nat.le_of_ble_eq_true rfl)⟩ ⟨rfl, rfl⟩ hl.1 rfl (Nat.le_of_ble_eq_true rfl) ⟨Nat.zero_le _, Nat.zero_le _⟩ dX4_record_11 (fun H locs (w : Wd D (kT cI cO) (va_A _ _) _ _ (xW cI cO a s f R) H locs) => ?_)
    refine x_eqi (x := o_X4_isSignal v) (y := wIn v (-1000000) 1000000) rfl ?_
    refine lv_if_ne (tgt := 20) S.1 S.2.1 dX4_record_14 (by decide) (fun (c_2 : ¬ (wIn v (-1000000) 1000000) = 0) => ?_) (fun (c_2 : (wIn v (-1000000) 1000000) = 0) => ?_)
    · refine lv_aload_n S.1 S.2.1 dX4_record_20 rfl (lv_at hl 0 rfl) ?_
      refine lv_iload_n S.1 S.2.1 dX4_record_21 rfl (lv_at hl 1 rfl) ?_
      refine x_Vv (As := [.int v]) (rest := []) S w (goodV lk_RX4_123 li_X4_takeOutput ls_X4_takeOutput ln_RX4 lc_X4_takeOutput) hV_X4_takeOutput (k_X4_takeOutput l D cI cO a R s f N K d b mm G cc v hN h4 h48 hK hK2 hd hd8 hb hb1 hb10 hm hm4 hG hG5 hc hcN) rfl 0 4 rfl rfl xc_0 ⟨(Nat.le_of_ble_eq_true rfl), (Nat.le_of_ble_eq_true rfl)⟩ ⟨rfl, rfl⟩ hl.1 rfl (Nat.le_of_ble_eq_true rfl) ⟨Nat.zero_le _, Nat.zero_le _⟩ dX4_record_22 (fun H locs (w : Wd D (kT cI cO) (va_A _ _) _ _ (xW cI cO a (o_X4_takeOutput s f N K d b mm G cc v).1 (o_X4_takeOutput s f N K d b mm G cc v).2 R) H locs) => ?_)
      refine lv_aload_n S.1 S.2.1 dX4_record_25 rfl (lv_at hl 0 rfl) ?_
      refine xg_11 S w lk_RX4_112 dX4_record_26 ?_
      refine lv_if_eq (tgt := 44) S.1 S.2.1 dX4_record_29 (by decide) (fun (c_3 : ((o_X4_takeOutput s f N K d b mm G cc v).1 11) = 0) => ?_) (fun (c_3 : ¬ (((o_X4_takeOutput s f N K d b mm G cc v).1 11) = 0)) => ?_)
      · refine x_ldc S lk_RX4_129 dX4_record_44 ?_
        exact x_reti S w hr hlk dX4_record_46 (show (-2000000004) = (o_X4_record s f N K d b mm G cc v).1 from by simp only [o_X4_record, if_neg c_1, if_neg c_2, if_pos c_3]) (show xW cI cO a (o_X4_takeOutput s f N K d b mm G cc v).1 (o_X4_takeOutput s f N K d b mm G cc v).2 R = xW cI cO a (o_X4_record s f N K d b mm G cc v).2.1 (o_X4_record s f N K d b mm G cc v).2.2 R from by simp only [o_X4_record, if_neg c_1, if_neg c_2, if_pos c_3])
      · have ht := tk_run h48 hcN c_3
        refine lv_aload_n S.1 S.2.1 dX4_record_32 rfl (lv_at hl 0 rfl) ?_
        refine xr_6 S w lk_RX4_41 dX4_record_33 ?_
        refine lv_aload_n S.1 S.2.1 dX4_record_36 rfl (lv_at hl 0 rfl) ?_
        refine xg_12 S w lk_RX4_126 dX4_record_37 ?_
        refine x_iald S w 6 0 (g := (o_X4_takeOutput s f N K d b mm G cc v).2 1) (v := ((o_X4_takeOutput s f N K d b mm G cc v).2 1) (cc + 1)) (cc + 1) (by omega) (ht.1) (Nat.le_of_ble_eq_true rfl) (xc_6) rfl (rfl) dX4_record_40 ?_
        refine lv_goto (tgt := 46) S.1 S.2.1 dX4_record_41 (by decide) ?_
        exact x_reti S w hr hlk dX4_record_46 (show ((o_X4_takeOutput s f N K d b mm G cc v).2 1) (cc + 1) = (o_X4_record s f N K d b mm G cc v).1 from by simp only [o_X4_record, if_neg c_1, if_neg c_2, if_neg c_3]) (show xW cI cO a (o_X4_takeOutput s f N K d b mm G cc v).1 (o_X4_takeOutput s f N K d b mm G cc v).2 R = xW cI cO a (o_X4_record s f N K d b mm G cc v).2.1 (o_X4_record s f N K d b mm G cc v).2.2 R from by simp only [o_X4_record, if_neg c_1, if_neg c_2, if_neg c_3])
    · refine x_ldc S lk_RX4_64 dX4_record_17 ?_
      exact x_reti S w hr hlk dX4_record_19 (show (-2000000001) = (o_X4_record s f N K d b mm G cc v).1 from by simp only [o_X4_record, if_neg c_1, if_pos c_2]) (show xW cI cO a s f R = xW cI cO a (o_X4_record s f N K d b mm G cc v).2.1 (o_X4_record s f N K d b mm G cc v).2.2 R from by simp only [o_X4_record, if_neg c_1, if_pos c_2])
  · refine x_ldc S lk_RX4_122 dX4_record_7 ?_
    exact x_reti S w hr hlk dX4_record_9 (show (-2000000003) = (o_X4_record s f N K d b mm G cc v).1 from by simp only [o_X4_record, if_pos c_1]) (show xW cI cO a s f R = xW cI cO a (o_X4_record s f N K d b mm G cc v).2.1 (o_X4_record s f N K d b mm G cc v).2.2 R from by simp only [o_X4_record, if_pos c_1])
def o_X4_abort (s : Nat → Int32) (f : Nat → Nat → Int32) (N : Nat) (cc : Nat) (d : Nat) (b : Nat) (mm : Nat) : Int32 × (Nat → Int32) × (Nat → Nat → Int32) := if (s 11) = 0 then ((-2000000003), s, f) else if (nI cc) ≤ 0 then (nI cc, upd (upd s 11 0) 14 ((s 14) + 1), f) else (nI cc, upd (upd s 11 0) 14 ((s 14) + 1), o_X4_learnFromPart (upd (upd s 11 0) 14 ((s 14) + 1)) f N cc d b mm)
set_option maxHeartbeats 4000000 in
set_option maxRecDepth 100000 in
theorem k_X4_abort (l : Launch) (D : va_G) (cI cO : ClassId) (a : Nat → Nat) (R : va_W) (s : Nat → Int32) (f : Nat → Nat → Int32) (N : Nat) (cc : Nat) (d : Nat) (b : Nat) (mm : Nat) (hN : s 0 = nI N) (h4 : 4 ≤ N) (h48 : N ≤ 48) (hd : s 2 = nI d) (hd8 : d ≤ 8) (hb : s 6 = nI b) (hb1 : 1 ≤ b) (hb10 : b ≤ 10) (hm : s 4 = nI mm) (hm4 : mm ≤ 4) (hc : s 12 = nI cc) (hcN : cc ≤ N) : Mi l yX4_abort cX4_abort 1 (some .int) { frames := 4, cells := 0, slots := 0, locals := 119 } D (kT cI cO) (xW cI cO a s f R) [.ref (a 0)] (xW cI cO a (o_X4_abort s f N cc d b mm).2.1 (o_X4_abort s f N cc d b mm).2.2 R) (o_X4_abort s f N cc d b mm).1 := by
  intro sz
  refine ent (by decide +kernel) (Nat.le_of_ble_eq_true rfl) ?_
  intro p e st m below meth c ls S hr hlk hnm w hsz hl
  have hl : lv_has ls 1 [(0, .ref (a 0))] := hl
  refine lv_aload_n S.1 S.2.1 dX4_abort_0 rfl (lv_at hl 0 rfl) ?_
  refine xg_11 S w lk_RX4_112 dX4_abort_1 ?_
  refine lv_if_ne (tgt := 10) S.1 S.2.1 dX4_abort_4 (by decide) (fun (c_1 : ¬ (s 11) = 0) => ?_) (fun (c_1 : (s 11) = 0) => ?_)
  · refine lv_aload_n S.1 S.2.1 dX4_abort_10 rfl (lv_at hl 0 rfl) ?_
    refine lv_iconst (v := 0) S.1 S.2.1 dX4_abort_11 (by decide) ?_
    refine xp_11 S w (Or.inl rfl) lk_RX4_112 dX4_abort_12 (fun H locs (w : Wd D (kT cI cO) (va_A _ _) _ _ (xW cI cO a (upd s 11 0) f R) H locs) => ?_)
    refine lv_aload_n S.1 S.2.1 dX4_abort_15 rfl (lv_at hl 0 rfl) ?_
    refine lv_dup S.1 S.2.1 dX4_abort_16 rfl ?_
    refine xg_14 S w lk_RX4_130 dX4_abort_17 ?_
    refine x_eqi (x := (upd s 11 0) 14) (y := s 14) rfl ?_
    refine lv_iconst (v := 1) S.1 S.2.1 dX4_abort_20 (by decide) ?_
    refine lv_iadd S.1 S.2.1 dX4_abort_21 ?_
    refine xp_14 S w lk_RX4_130 dX4_abort_22 (fun H locs (w : Wd D (kT cI cO) (va_A _ _) _ _ (xW cI cO a (upd (upd s 11 0) 14 ((s 14) + 1)) f R) H locs) => ?_)
    refine lv_aload_n S.1 S.2.1 dX4_abort_25 rfl (lv_at hl 0 rfl) ?_
    refine xg_12 S w lk_RX4_126 dX4_abort_26 ?_
    refine x_eqi (x := (upd (upd s 11 0) 14 ((s 14) + 1)) 12) (y := s 12) rfl ?_
    refine x_eqi (x := s 12) (y := nI cc) (hc) ?_
    refine lv_if_le (tgt := 36) S.1 S.2.1 dX4_abort_29 (by decide) (fun (c_2 : (nI cc) ≤ 0) => ?_) (fun (c_2 : ¬ ((nI cc) ≤ 0)) => ?_)
    · refine lv_aload_n S.1 S.2.1 dX4_abort_36 rfl (lv_at hl 0 rfl) ?_
      refine xg_12 S w lk_RX4_126 dX4_abort_37 ?_
      refine x_eqi (x := (upd (upd s 11 0) 14 ((s 14) + 1)) 12) (y := s 12) rfl ?_
      refine x_eqi (x := s 12) (y := nI cc) (hc) ?_
      exact x_reti S w hr hlk dX4_abort_40 (show nI cc = (o_X4_abort s f N cc d b mm).1 from by simp only [o_X4_abort, if_neg c_1, if_pos c_2]) (show xW cI cO a (upd (upd s 11 0) 14 ((s 14) + 1)) f R = xW cI cO a (o_X4_abort s f N cc d b mm).2.1 (o_X4_abort s f N cc d b mm).2.2 R from by simp only [o_X4_abort, if_neg c_1, if_pos c_2])
    · refine lv_aload_n S.1 S.2.1 dX4_abort_32 rfl (lv_at hl 0 rfl) ?_
      refine x_Vv (As := []) (rest := []) S w (goodV lk_RX4_133 li_X4_learnFromPart ls_X4_learnFromPart ln_RX4 lc_X4_learnFromPart) hV_X4_learnFromPart (k_X4_learnFromPart l D cI cO a R (upd (upd s 11 0) 14 ((s 14) + 1)) f N cc d b mm hN h4 h48 hd hd8 hb hb1 hb10 hm hm4 hc hcN) rfl 0 4 rfl rfl xc_0 ⟨(Nat.le_of_ble_eq_true rfl), (Nat.le_of_ble_eq_true rfl)⟩ ⟨rfl, rfl⟩ hl.1 rfl (Nat.le_of_ble_eq_true rfl) ⟨Nat.zero_le _, Nat.zero_le _⟩ dX4_abort_33 (fun H locs (w : Wd D (kT cI cO) (va_A _ _) _ _ (xW cI cO a (upd (upd s 11 0) 14 ((s 14) + 1)) (o_X4_learnFromPart (upd (upd s 11 0) 14 ((s 14) + 1)) f N cc d b mm) R) H locs) => ?_)
      refine lv_aload_n S.1 S.2.1 dX4_abort_36 rfl (lv_at hl 0 rfl) ?_
      refine xg_12 S w lk_RX4_126 dX4_abort_37 ?_
      refine x_eqi (x := (upd (upd s 11 0) 14 ((s 14) + 1)) 12) (y := s 12) rfl ?_
      refine x_eqi (x := s 12) (y := nI cc) (hc) ?_
      exact x_reti S w hr hlk dX4_abort_40 (show nI cc = (o_X4_abort s f N cc d b mm).1 from by simp only [o_X4_abort, if_neg c_1, if_neg c_2]) (show xW cI cO a (upd (upd s 11 0) 14 ((s 14) + 1)) (o_X4_learnFromPart (upd (upd s 11 0) 14 ((s 14) + 1)) f N cc d b mm) R = xW cI cO a (o_X4_abort s f N cc d b mm).2.1 (o_X4_abort s f N cc d b mm).2.2 R from by simp only [o_X4_abort, if_neg c_1, if_neg c_2])
  · refine x_ldc S lk_RX4_122 dX4_abort_7 ?_
    exact x_reti S w hr hlk dX4_abort_9 (show (-2000000003) = (o_X4_abort s f N cc d b mm).1 from by simp only [o_X4_abort, if_pos c_1]) (show xW cI cO a s f R = xW cI cO a (o_X4_abort s f N cc d b mm).2.1 (o_X4_abort s f N cc d b mm).2.2 R from by simp only [o_X4_abort, if_pos c_1])
/-- a sample of a simulated trial -/
def stpF (N K d b mm G k : Nat) (u : (Nat → Int32) × (Nat → Nat → Int32)) : (Nat → Int32) × (Nat → Nat → Int32) := o_X4_takeOutput (upd u.1 18 (sdF u.1)) u.2 N K d b mm G k (o_X4_limitTo (outF u.2 k + Int32.toInt64 (dsF u.1)) 1000000)
def simF (s : Nat → Int32) (f : Nat → Nat → Int32) (N K d b mm G i : Nat) : (Nat → Int32) × (Nat → Nat → Int32) := itk (stpF N K d b mm G) i (s, f)
/-- what a sample before the last one leaves -/
theorem sim_s {s : Nat → Int32} {f : Nat → Nat → Int32} {N K d b mm G : Nat} (h48 : N ≤ 48) {j : Nat} (hj : j ≠ 12 ∧ j ≠ 18) : ∀ i, i < N → (simF s f N K d b mm G i).1 j = s j := by
  intro i
  induction i with
  | zero => intro _; rfl
  | succ i ih =>
    intro h
    show (stpF N K d b mm G i (simF s f N K d b mm G i)).1 j = s j
    unfold stpF
    rw [tk_lt h48 h]
    show upd (upd _ 18 _) 12 _ j = _
    simp only [upd, hj.1, hj.2, if_false]
    exact ih (by omega)
theorem sim_12 {s : Nat → Int32} {f : Nat → Nat → Int32} {N K d b mm G : Nat} (h48 : N ≤ 48) (h0 : s 12 = 0) : ∀ i, i < N → (simF s f N K d b mm G i).1 12 = nI i := by
  intro i
  cases i with
  | zero => intro _; exact h0
  | succ i =>
    intro h
    show (stpF N K d b mm G i (simF s f N K d b mm G i)).1 12 = _
    unfold stpF
    rw [tk_lt h48 h]
    rfl
/-- and the last one -/
theorem sim_N {s : Nat → Int32} {f : Nat → Nat → Int32} {N K d b mm G : Nat} (h4 : 4 ≤ N) (h48 : N ≤ 48) {j : Nat} (hj : j ≠ 12 ∧ j ≠ 18) (h : j ≠ 16 ∧ j ≠ 20 ∧ j ≠ 21 ∧ j ≠ 22) (h1 : j ≠ 1 ∧ j ≠ 15) : (simF s f N K d b mm G N).1 j = upd (upd s 11 0) 19 (nI (K + 1)) j := by
  obtain ⟨n, rfl⟩ : ∃ n, N = n + 1 := ⟨N - 1, by omega⟩
  show (stpF (n + 1) K d b mm G n (simF s f (n + 1) K d b mm G n)).1 j = _
  unfold stpF
  rw [tk_ge h48 (by omega) (by omega), ct_s _ _ _ _ _ _ _ _ h h1]
  have e := sim_s (s := s) (f := f) (K := K) (d := d) (b := b) (mm := mm) (G := G) h48 hj n (by omega)
  by_cases h19 : j = 19
  · subst h19; rfl
  · by_cases h11 : j = 11
    · subst h11; rfl
    · simp only [upd, h19, h11, hj.1, hj.2, if_false]
      exact e
theorem sim_0 {s : Nat → Int32} {f : Nat → Nat → Int32} {N K d b mm G : Nat} (hN : s 0 = nI N) (h4 : 4 ≤ N) (h48 : N ≤ 48) : ∀ i, i ≤ N → (simF s f N K d b mm G i).1 0 = nI N := by
  intro i hi
  by_cases h : i < N
  · exact (sim_s h48 (by decide) i h).trans hN
  · have : i = N := by omega
    subst this
    exact (sim_N h4 h48 (by decide) (by decide) (by decide)).trans hN
def o_X4_simulateTrial_6 (s : Nat → Int32) (f : Nat → Nat → Int32) (N : Nat) (K : Nat) (d : Nat) (b : Nat) (mm : Nat) (G : Nat) : (Nat → Int32) × (Nat → Nat → Int32) := ((simF (upd (upd (upd s 11 1) 12 0) 13 (s 13 + 1)) f N K d b mm G N).1, (simF (upd (upd (upd s 11 1) 12 0) 13 (s 13 + 1)) f N K d b mm G N).2)
set_option maxHeartbeats 4000000 in
set_option maxRecDepth 100000 in
theorem j_X4_simulateTrial_6 {p : Program} {e : Env} {st : State} {m : MethodId} {args : Array Value} {below : List Frame} {meth : Method} {c : Code} {ws0 : va_W} {sz : Nat} (l : Launch) (D : va_G) (cI cO : ClassId) (a : Nat → Nat) (R : va_W) (s : Nat → Int32) (f : Nat → Nat → Int32) (N : Nat) (K : Nat) (d : Nat) (b : Nat) (mm : Nat) (G : Nat) (hN : s 0 = nI N) (h4 : 4 ≤ N) (h48 : N ≤ 48) (hK : s 19 = nI K) (hK2 : K + 1 < 1000000) (hd : s 2 = nI d) (hd8 : d ≤ 8) (hb : s 6 = nI b) (hb1 : 1 ≤ b) (hb10 : b ≤ 10) (hm : s 4 = nI mm) (hm4 : mm ≤ 4) (hG : s 7 = nI G) (hG5 : G ≤ 5) (hz : ¬ 2 * s 17 + 1 = 0) (S : CallFix p m c cX4_simulateTrial 2 st args wsL_law RX4) (hr : meth.sig.returnType = none) (hlk : meth.locks = false) : ∀ (n : Nat) (i : Nat) (H : Heap) (locs : List Loc) (ls : Array Slot), N + 1 ≤ i + n → i ≤ N → Wd D (kT cI cO) (va_A ws0 sz) st.heap st (xW cI cO a (simF (upd (upd (upd s 11 1) 12 0) 13 (s 13 + 1)) f N K d b mm G i).1 (simF (upd (upd (upd s 11 1) 12 0) 13 (s 13 + 1)) f N K d b mm G i).2 R) H locs → lv_has ls 2 [(0, .ref (a 0)), (1, .int (nI i))] → W p l e { frames := 6, cells := 0, slots := 0, locals := 141 } st m args below meth c H locs 0 0 (MQ below (mQv D (kT cI cO) ws0 sz (xW cI cO a (o_X4_simulateTrial_6 s f N K d b mm G).1 (o_X4_simulateTrial_6 s f N K d b mm G).2 R)) args st 0 0 (va_A ws0 sz)) (F0 m 6 ls []) := by
  intro n
  induction n with
  | zero => intro i H locs ls hfu hi w hl; exact absurd hfu (by omega)
  | succ n ih =>
    intro i H locs ls hfu hi w hl
    refine lv_iload_n S.1 S.2.1 dX4_simulateTrial_6 rfl (lv_at hl 1 rfl) ?_
    refine lv_aload_n S.1 S.2.1 dX4_simulateTrial_7 rfl (lv_at hl 0 rfl) ?_
    refine xr_1 S w lk_RX4_10 dX4_simulateTrial_8 ?_
    refine xg_0 S w lk_RX4_65 dX4_simulateTrial_11 ?_
    refine x_eqi (x := (simF (upd (upd (upd s 11 1) 12 0) 13 (s 13 + 1)) f N K d b mm G i).1 0) (y := nI N) (sim_0 (s := (upd (upd (upd s 11 1) 12 0) 13 (s 13 + 1))) hN h4 h48 i hi) ?_
    refine lv_icmp_ge (tgt := 44) S.1 S.2.1 dX4_simulateTrial_14 (by decide) (fun (c_1 : (nI N) ≤ (nI i)) => ?_) (fun (c_1 : ¬ ((nI N) ≤ (nI i))) => ?_)
    · have he : i = N := by
        have := (nI_leI (a := N) (b := i) (by omega) (by omega)).mp c_1
        omega
      subst i
      exact x_retv S w hr hlk dX4_simulateTrial_44 (show xW cI cO a (simF (upd (upd (upd s 11 1) 12 0) 13 (s 13 + 1)) f N K d b mm G N).1 (simF (upd (upd (upd s 11 1) 12 0) 13 (s 13 + 1)) f N K d b mm G N).2 R = xW cI cO a (o_X4_simulateTrial_6 s f N K d b mm G).1 (o_X4_simulateTrial_6 s f N K d b mm G).2 R from by simp only [o_X4_simulateTrial_6])
    · have hlt : i < N := Nat.lt_of_not_le (fun z => c_1 (nI_le z (by omega)))
      refine lv_aload_n S.1 S.2.1 dX4_simulateTrial_17 rfl (lv_at hl 0 rfl) ?_
      refine lv_aload_n S.1 S.2.1 dX4_simulateTrial_18 rfl (lv_at hl 0 rfl) ?_
      refine xr_2 S w lk_RX4_19 dX4_simulateTrial_19 ?_
      refine lv_aload_n S.1 S.2.1 dX4_simulateTrial_22 rfl (lv_at hl 0 rfl) ?_
      refine xr_6 S w lk_RX4_41 dX4_simulateTrial_23 ?_
      refine lv_iload_n S.1 S.2.1 dX4_simulateTrial_26 rfl (lv_at hl 1 rfl) ?_
      refine x_Vl (As := [.ref (a 6), .int (nI i)]) (rest := [.ref (a 0)]) S w (goodV lk_RX4_237 li_X2_outputAt ls_X2_outputAt ln_RX2 lc_X2_outputAt) hV_X2_outputAt (k_X2_outputAt l D cI cO a R (simF (upd (upd (upd s 11 1) 12 0) 13 (s 13 + 1)) f N K d b mm G i).1 (simF (upd (upd (upd s 11 1) 12 0) 13 (s 13 + 1)) f N K d b mm G i).2 i (by omega) (by rw [sim_s (s := (upd (upd (upd s 11 1) 12 0) 13 (s 13 + 1))) (j := 17) h48 (by decide) i hlt]; exact hz : ¬ 2 * (simF (upd (upd (upd s 11 1) 12 0) 13 (s 13 + 1)) f N K d b mm G i).1 17 + 1 = 0)) rfl 2 2 rfl rfl xc_2 ⟨(Nat.le_of_ble_eq_true rfl), (Nat.le_of_ble_eq_true rfl)⟩ ⟨rfl, rfl⟩ hl.1 rfl (Nat.le_of_ble_eq_true rfl) ⟨Nat.zero_le _, Nat.zero_le _⟩ dX4_simulateTrial_27 (fun H locs (w : Wd D (kT cI cO) (va_A _ _) _ _ (xW cI cO a (upd (simF (upd (upd (upd s 11 1) 12 0) 13 (s 13 + 1)) f N K d b mm G i).1 18 (sdF (simF (upd (upd (upd s 11 1) 12 0) 13 (s 13 + 1)) f N K d b mm G i).1)) (simF (upd (upd (upd s 11 1) 12 0) 13 (s 13 + 1)) f N K d b mm G i).2 R) H locs) => ?_)
      refine x_eql (x := (o_X2_outputAt (simF (upd (upd (upd s 11 1) 12 0) 13 (s 13 + 1)) f N K d b mm G i).1 (simF (upd (upd (upd s 11 1) 12 0) 13 (s 13 + 1)) f N K d b mm G i).2 i).1) (y := (outF (simF (upd (upd (upd s 11 1) 12 0) 13 (s 13 + 1)) f N K d b mm G i).2 i) + (Int32.toInt64 (dsF (simF (upd (upd (upd s 11 1) 12 0) 13 (s 13 + 1)) f N K d b mm G i).1))) rfl ?_
      refine x_ldc S lk_RX4_92 dX4_simulateTrial_30 ?_
      refine x_Si (As := [.long ((outF (simF (upd (upd (upd s 11 1) 12 0) 13 (s 13 + 1)) f N K d b mm G i).2 i) + (Int32.toInt64 (dsF (simF (upd (upd (upd s 11 1) 12 0) 13 (s 13 + 1)) f N K d b mm G i).1))), .int 1000000]) (rest := [.ref (a 0)]) S w (goodS lk_RX4_240 lt_X4_limitTo ln_RX4 lc_X4_limitTo) hd_X4_limitTo (k_X4_limitTo l _ _ (xW cI cO a (upd (simF (upd (upd (upd s 11 1) 12 0) 13 (s 13 + 1)) f N K d b mm G i).1 18 (sdF (simF (upd (upd (upd s 11 1) 12 0) 13 (s 13 + 1)) f N K d b mm G i).1)) (simF (upd (upd (upd s 11 1) 12 0) 13 (s 13 + 1)) f N K d b mm G i).2 R) ((outF (simF (upd (upd (upd s 11 1) 12 0) 13 (s 13 + 1)) f N K d b mm G i).2 i) + (Int32.toInt64 (dsF (simF (upd (upd (upd s 11 1) 12 0) 13 (s 13 + 1)) f N K d b mm G i).1))) 1000000) rfl ⟨(Nat.le_of_ble_eq_true rfl), (Nat.le_of_ble_eq_true rfl)⟩ ⟨rfl, rfl⟩ hl.1 rfl (Nat.le_of_ble_eq_true rfl) ⟨Nat.zero_le _, Nat.zero_le _⟩ dX4_simulateTrial_32 (fun H locs (w : Wd D (kT cI cO) (va_A _ _) _ _ (xW cI cO a (upd (simF (upd (upd (upd s 11 1) 12 0) 13 (s 13 + 1)) f N K d b mm G i).1 18 (sdF (simF (upd (upd (upd s 11 1) 12 0) 13 (s 13 + 1)) f N K d b mm G i).1)) (simF (upd (upd (upd s 11 1) 12 0) 13 (s 13 + 1)) f N K d b mm G i).2 R) H locs) => ?_)
      refine x_Vv (As := [.int (o_X4_limitTo ((outF (simF (upd (upd (upd s 11 1) 12 0) 13 (s 13 + 1)) f N K d b mm G i).2 i) + (Int32.toInt64 (dsF (simF (upd (upd (upd s 11 1) 12 0) 13 (s 13 + 1)) f N K d b mm G i).1))) 1000000)]) (rest := []) S w (goodV lk_RX4_123 li_X4_takeOutput ls_X4_takeOutput ln_RX4 lc_X4_takeOutput) hV_X4_takeOutput (k_X4_takeOutput l D cI cO a R (upd (simF (upd (upd (upd s 11 1) 12 0) 13 (s 13 + 1)) f N K d b mm G i).1 18 (sdF (simF (upd (upd (upd s 11 1) 12 0) 13 (s 13 + 1)) f N K d b mm G i).1)) (simF (upd (upd (upd s 11 1) 12 0) 13 (s 13 + 1)) f N K d b mm G i).2 N K d b mm G i (o_X4_limitTo ((outF (simF (upd (upd (upd s 11 1) 12 0) 13 (s 13 + 1)) f N K d b mm G i).2 i) + (Int32.toInt64 (dsF (simF (upd (upd (upd s 11 1) 12 0) 13 (s 13 + 1)) f N K d b mm G i).1))) 1000000) ((sim_s h48 (by decide) i hlt).trans hN : (simF (upd (upd (upd s 11 1) 12 0) 13 (s 13 + 1)) f N K d b mm G i).1 0 = _) h4 h48 ((sim_s h48 (by decide) i hlt).trans hK : (simF (upd (upd (upd s 11 1) 12 0) 13 (s 13 + 1)) f N K d b mm G i).1 19 = _) hK2 ((sim_s h48 (by decide) i hlt).trans hd : (simF (upd (upd (upd s 11 1) 12 0) 13 (s 13 + 1)) f N K d b mm G i).1 2 = _) hd8 ((sim_s h48 (by decide) i hlt).trans hb : (simF (upd (upd (upd s 11 1) 12 0) 13 (s 13 + 1)) f N K d b mm G i).1 6 = _) hb1 hb10 ((sim_s h48 (by decide) i hlt).trans hm : (simF (upd (upd (upd s 11 1) 12 0) 13 (s 13 + 1)) f N K d b mm G i).1 4 = _) hm4 ((sim_s h48 (by decide) i hlt).trans hG : (simF (upd (upd (upd s 11 1) 12 0) 13 (s 13 + 1)) f N K d b mm G i).1 7 = _) hG5 (sim_12 h48 rfl i hlt : (simF (upd (upd (upd s 11 1) 12 0) 13 (s 13 + 1)) f N K d b mm G i).1 12 = _) hlt) rfl 0 4 rfl rfl xc_0 ⟨(Nat.le_of_ble_eq_true rfl), (Nat.le_of_ble_eq_true rfl)⟩ ⟨rfl, rfl⟩ hl.1 rfl (Nat.le_of_ble_eq_true rfl) ⟨Nat.zero_le _, Nat.zero_le _⟩ dX4_simulateTrial_35 (fun H locs (w : Wd D (kT cI cO) (va_A _ _) _ _ (xW cI cO a (o_X4_takeOutput (upd (simF (upd (upd (upd s 11 1) 12 0) 13 (s 13 + 1)) f N K d b mm G i).1 18 (sdF (simF (upd (upd (upd s 11 1) 12 0) 13 (s 13 + 1)) f N K d b mm G i).1)) (simF (upd (upd (upd s 11 1) 12 0) 13 (s 13 + 1)) f N K d b mm G i).2 N K d b mm G i (o_X4_limitTo ((outF (simF (upd (upd (upd s 11 1) 12 0) 13 (s 13 + 1)) f N K d b mm G i).2 i) + (Int32.toInt64 (dsF (simF (upd (upd (upd s 11 1) 12 0) 13 (s 13 + 1)) f N K d b mm G i).1))) 1000000)).1 (o_X4_takeOutput (upd (simF (upd (upd (upd s 11 1) 12 0) 13 (s 13 + 1)) f N K d b mm G i).1 18 (sdF (simF (upd (upd (upd s 11 1) 12 0) 13 (s 13 + 1)) f N K d b mm G i).1)) (simF (upd (upd (upd s 11 1) 12 0) 13 (s 13 + 1)) f N K d b mm G i).2 N K d b mm G i (o_X4_limitTo ((outF (simF (upd (upd (upd s 11 1) 12 0) 13 (s 13 + 1)) f N K d b mm G i).2 i) + (Int32.toInt64 (dsF (simF (upd (upd (upd s 11 1) 12 0) 13 (s 13 + 1)) f N K d b mm G i).1))) 1000000)).2 R) H locs) => ?_)
      refine lv_iinc (v := nI (i + 1)) (lv' := [(1, .int (nI (i + 1))), (0, .ref (a 0))]) S.1 S.2.1 dX4_simulateTrial_38 hl (k := 1) rfl (x_inc _) (by decide) rfl (fun ls hl => ?_)
      refine lv_goto (tgt := 6) S.1 S.2.1 dX4_simulateTrial_41 (by decide) ?_
      exact ih (i + 1) _ _ _ (by omega) (by omega) (w.to (show xW cI cO a (o_X4_takeOutput (upd (simF (upd (upd (upd s 11 1) 12 0) 13 (s 13 + 1)) f N K d b mm G i).1 18 (sdF (simF (upd (upd (upd s 11 1) 12 0) 13 (s 13 + 1)) f N K d b mm G i).1)) (simF (upd (upd (upd s 11 1) 12 0) 13 (s 13 + 1)) f N K d b mm G i).2 N K d b mm G i (o_X4_limitTo ((outF (simF (upd (upd (upd s 11 1) 12 0) 13 (s 13 + 1)) f N K d b mm G i).2 i) + (Int32.toInt64 (dsF (simF (upd (upd (upd s 11 1) 12 0) 13 (s 13 + 1)) f N K d b mm G i).1))) 1000000)).1 (o_X4_takeOutput (upd (simF (upd (upd (upd s 11 1) 12 0) 13 (s 13 + 1)) f N K d b mm G i).1 18 (sdF (simF (upd (upd (upd s 11 1) 12 0) 13 (s 13 + 1)) f N K d b mm G i).1)) (simF (upd (upd (upd s 11 1) 12 0) 13 (s 13 + 1)) f N K d b mm G i).2 N K d b mm G i (o_X4_limitTo ((outF (simF (upd (upd (upd s 11 1) 12 0) 13 (s 13 + 1)) f N K d b mm G i).2 i) + (Int32.toInt64 (dsF (simF (upd (upd (upd s 11 1) 12 0) 13 (s 13 + 1)) f N K d b mm G i).1))) 1000000)).2 R = xW cI cO a (simF (upd (upd (upd s 11 1) 12 0) 13 (s 13 + 1)) f N K d b mm G (i + 1)).1 (simF (upd (upd (upd s 11 1) 12 0) 13 (s 13 + 1)) f N K d b mm G (i + 1)).2 R from rfl)) (lv_sub hl [1, 0] rfl)
def o_X4_simulateTrial (s : Nat → Int32) (f : Nat → Nat → Int32) (N : Nat) (K : Nat) (d : Nat) (b : Nat) (mm : Nat) (G : Nat) : (Nat → Int32) × (Nat → Nat → Int32) := o_X4_simulateTrial_6 s f N K d b mm G
set_option maxHeartbeats 4000000 in
set_option maxRecDepth 100000 in
theorem k_X4_simulateTrial (l : Launch) (D : va_G) (cI cO : ClassId) (a : Nat → Nat) (R : va_W) (s : Nat → Int32) (f : Nat → Nat → Int32) (N : Nat) (K : Nat) (d : Nat) (b : Nat) (mm : Nat) (G : Nat) (hN : s 0 = nI N) (h4 : 4 ≤ N) (h48 : N ≤ 48) (hK : s 19 = nI K) (hK2 : K + 1 < 1000000) (hd : s 2 = nI d) (hd8 : d ≤ 8) (hb : s 6 = nI b) (hb1 : 1 ≤ b) (hb10 : b ≤ 10) (hm : s 4 = nI mm) (hm4 : mm ≤ 4) (hG : s 7 = nI G) (hG5 : G ≤ 5) (hz : ¬ 2 * s 17 + 1 = 0) : Mv l yX4_simulateTrial cX4_simulateTrial 2 none { frames := 6, cells := 0, slots := 0, locals := 141 } D (kT cI cO) (xW cI cO a s f R) [.ref (a 0)] (xW cI cO a (o_X4_simulateTrial s f N K d b mm G).1 (o_X4_simulateTrial s f N K d b mm G).2 R) := by
  intro sz
  refine ent (by decide +kernel) (Nat.le_of_ble_eq_true rfl) ?_
  intro p e st m below meth c ls S hr hlk hnm w hsz hl
  have hl : lv_has ls 2 [(0, .ref (a 0))] := hl
  refine lv_aload_n S.1 S.2.1 dX4_simulateTrial_0 rfl (lv_at hl 0 rfl) ?_
  refine x_Vv (As := []) (rest := []) S w (goodV lk_RX4_116 li_X4_beginTrial ls_X4_beginTrial ln_RX4 lc_X4_beginTrial) hV_X4_beginTrial (k_X4_beginTrial l D cI cO a R s f) rfl 0 4 rfl rfl xc_0 ⟨(Nat.le_of_ble_eq_true rfl), (Nat.le_of_ble_eq_true rfl)⟩ ⟨rfl, rfl⟩ hl.1 rfl (Nat.le_of_ble_eq_true rfl) ⟨Nat.zero_le _, Nat.zero_le _⟩ dX4_simulateTrial_1 (fun H locs (w : Wd D (kT cI cO) (va_A _ _) _ _ (xW cI cO a (upd (upd (upd s 11 1) 12 0) 13 ((s 13) + 1)) f R) H locs) => ?_)
  refine lv_iconst (v := 0) S.1 S.2.1 dX4_simulateTrial_4 (by decide) ?_
  refine lv_istore_n (lv' := [(1, .int 0), (0, .ref (a 0))]) S.1 S.2.1 dX4_simulateTrial_5 rfl hl (by decide) rfl (fun ls hl => ?_)
  refine x_tov  (show xW cI cO a (o_X4_simulateTrial_6 s f N K d b mm G).1 (o_X4_simulateTrial_6 s f N K d b mm G).2 R = xW cI cO a (o_X4_simulateTrial s f N K d b mm G).1 (o_X4_simulateTrial s f N K d b mm G).2 R from by simp only [o_X4_simulateTrial]) ?_
  exact j_X4_simulateTrial_6 l D cI cO a R s f N K d b mm G hN h4 h48 hK hK2 hd hd8 hb hb1 hb10 hm hm4 hG hG5 hz S hr hlk (N + 1) 0 _ _ _ (by omega) (by omega) (w.to (show xW cI cO a (upd (upd (upd s 11 1) 12 0) 13 ((s 13) + 1)) f R = xW cI cO a (simF (upd (upd (upd s 11 1) 12 0) 13 (s 13 + 1)) f N K d b mm G 0).1 (simF (upd (upd (upd s 11 1) 12 0) 13 (s 13 + 1)) f N K d b mm G 0).2 R from rfl)) (lv_sub hl [1, 0] rfl)
theorem st_s {s : Nat → Int32} {f : Nat → Nat → Int32} {N K d b mm G : Nat} (h4 : 4 ≤ N) (h48 : N ≤ 48) {j : Nat} (hj : j ≠ 12 ∧ j ≠ 18) (h : j ≠ 16 ∧ j ≠ 20 ∧ j ≠ 21 ∧ j ≠ 22) (h1 : j ≠ 1 ∧ j ≠ 15 ∧ j ≠ 11 ∧ j ≠ 13) : (o_X4_simulateTrial s f N K d b mm G).1 j = upd s 19 (nI (K + 1)) j := by
  unfold o_X4_simulateTrial o_X4_simulateTrial_6
  refine (sim_N h4 h48 hj h ⟨h1.1, h1.2.1⟩).trans ?_
  simp only [upd, h1.2.2.1, h1.2.2.2, hj.1, if_false]
theorem st_11 {s : Nat → Int32} {f : Nat → Nat → Int32} {N K d b mm G : Nat} (h4 : 4 ≤ N) (h48 : N ≤ 48) : (o_X4_simulateTrial s f N K d b mm G).1 11 = 0 := by
  unfold o_X4_simulateTrial o_X4_simulateTrial_6
  exact (sim_N h4 h48 (by decide) (by decide) (by decide)).trans rfl
/-- so many simulated trials -/
def triF (s : Nat → Int32) (f : Nat → Nat → Int32) (N K d b mm G i : Nat) : (Nat → Int32) × (Nat → Nat → Int32) := itk (fun k u => o_X4_simulateTrial u.1 u.2 N (K + k) d b mm G) i (s, f)
theorem tri_s {s : Nat → Int32} {f : Nat → Nat → Int32} {N K d b mm G : Nat} (h4 : 4 ≤ N) (h48 : N ≤ 48) {j : Nat} (hj : j ≠ 12 ∧ j ≠ 18) (h : j ≠ 16 ∧ j ≠ 20 ∧ j ≠ 21 ∧ j ≠ 22) (h1 : j ≠ 1 ∧ j ≠ 15 ∧ j ≠ 11 ∧ j ≠ 13) (h19 : j ≠ 19) : ∀ i, (triF s f N K d b mm G i).1 j = s j := by
  intro i
  induction i with
  | zero => rfl
  | succ i ih =>
    refine (st_s h4 h48 hj h h1).trans ?_
    show upd _ 19 _ j = _
    unfold upd
    rw [if_neg h19]
    exact ih
theorem tri_19 {s : Nat → Int32} {f : Nat → Nat → Int32} {N K d b mm G : Nat} (hK : s 19 = nI K) (h4 : 4 ≤ N) (h48 : N ≤ 48) : ∀ i, (triF s f N K d b mm G i).1 19 = nI (K + i) := by
  intro i
  cases i with
  | zero => exact hK
  | succ i => exact (st_s h4 h48 (by decide) (by decide) (by decide)).trans rfl
theorem wIn_tr {q : Int32} (h : ¬ wIn q 1 20 = 0) : (1 ≤ Int32.toNatClampNeg q ∧ Int32.toNatClampNeg q ≤ 20) ∧ q = nI (Int32.toNatClampNeg q) := by
  obtain ⟨h1, h2⟩ := wIn_ne h
  obtain ⟨j, hj, rfl⟩ := nI_of2 (M := 20) (n := 20) rfl (fun z => by
    have := Int32.lt_of_lt_of_le z (Int32.le_trans (show (0 : Int32) ≤ 1 by decide) h1)
    exact Int32.lt_irrefl this) h2
  rw [nI_clamp (by omega)]
  have := (nI_leI (a := 1) (b := j) (by omega) (by omega)).mp h1
  exact ⟨⟨this, hj⟩, rfl⟩
def o_X4_simulate_25 (s : Nat → Int32) (f : Nat → Nat → Int32) (N : Nat) (K : Nat) (d : Nat) (b : Nat) (mm : Nat) (G : Nat) (q : Int32) : Int32 × (Nat → Int32) × (Nat → Nat → Int32) := (((triF s f N K d b mm G (Int32.toNatClampNeg q)).2 7) (slt ((triF s f N K d b mm G (Int32.toNatClampNeg q)).1 19) 0), (triF s f N K d b mm G (Int32.toNatClampNeg q)).1, (triF s f N K d b mm G (Int32.toNatClampNeg q)).2)
set_option maxHeartbeats 4000000 in
set_option maxRecDepth 100000 in
theorem j_X4_simulate_25 {p : Program} {e : Env} {st : State} {m : MethodId} {args : Array Value} {below : List Frame} {meth : Method} {c : Code} {ws0 : va_W} {sz : Nat} (l : Launch) (D : va_G) (cI cO : ClassId) (a : Nat → Nat) (R : va_W) (s : Nat → Int32) (f : Nat → Nat → Int32) (N : Nat) (K : Nat) (d : Nat) (b : Nat) (mm : Nat) (G : Nat) (q : Int32) (hN : s 0 = nI N) (h4 : 4 ≤ N) (h48 : N ≤ 48) (hK : s 19 = nI K) (hK2 : K + 21 < 1000000) (hd : s 2 = nI d) (hd8 : d ≤ 8) (hb : s 6 = nI b) (hb1 : 1 ≤ b) (hb10 : b ≤ 10) (hm : s 4 = nI mm) (hm4 : mm ≤ 4) (hG : s 7 = nI G) (hG5 : G ≤ 5) (hz : ¬ 2 * s 17 + 1 = 0) (S : CallFix p m c cX4_simulate 3 st args wsL_law RX4) (hr : meth.sig.returnType = (some .int)) (hlk : meth.locks = false) : ∀ (n : Nat) (i : Nat) (H : Heap) (locs : List Loc) (ls : Array Slot), Int32.toNatClampNeg q + 1 ≤ i + n → 1 ≤ Int32.toNatClampNeg q ∧ Int32.toNatClampNeg q ≤ 20 → i ≤ Int32.toNatClampNeg q → Wd D (kT cI cO) (va_A ws0 sz) st.heap st (xW cI cO a (triF s f N K d b mm G i).1 (triF s f N K d b mm G i).2 R) H locs → lv_has ls 3 [(0, .ref (a 0)), (1, .int (nI (Int32.toNatClampNeg q))), (2, .int (nI i))] → W p l e { frames := 7, cells := 0, slots := 0, locals := 162 } st m args below meth c H locs 0 0 (MQ below (mQi D (kT cI cO) ws0 sz (xW cI cO a (o_X4_simulate_25 s f N K d b mm G q).2.1 (o_X4_simulate_25 s f N K d b mm G q).2.2 R) (o_X4_simulate_25 s f N K d b mm G q).1) args st 0 0 (va_A ws0 sz)) (F0 m 25 ls []) := by
  intro n
  induction n with
  | zero => intro i H locs ls hfu hq hi w hl; exact absurd hfu (by omega)
  | succ n ih =>
    intro i H locs ls hfu hq hi w hl
    refine lv_iload_n S.1 S.2.1 dX4_simulate_25 rfl (lv_at hl 2 rfl) ?_
    refine lv_iload_n S.1 S.2.1 dX4_simulate_26 rfl (lv_at hl 1 rfl) ?_
    refine lv_icmp_ge (tgt := 40) S.1 S.2.1 dX4_simulate_27 (by decide) (fun (c_1 : (nI (Int32.toNatClampNeg q)) ≤ (nI i)) => ?_) (fun (c_1 : ¬ ((nI (Int32.toNatClampNeg q)) ≤ (nI i))) => ?_)
    · have he : i = Int32.toNatClampNeg q := by
        have := (nI_leI (a := Int32.toNatClampNeg q) (b := i) (by omega) (by omega)).mp c_1
        omega
      subst i
      refine lv_aload_n S.1 S.2.1 dX4_simulate_40 rfl (lv_at hl 0 rfl) ?_
      refine xr_3 S w lk_RX4_26 dX4_simulate_41 ?_
      refine xr_12 S w lk_RX4_155 dX4_simulate_44 ?_
      refine lv_aload_n S.1 S.2.1 dX4_simulate_47 rfl (lv_at hl 0 rfl) ?_
      refine xr_3 S w lk_RX4_26 dX4_simulate_48 ?_
      refine lv_iconst (v := 0) S.1 S.2.1 dX4_simulate_51 (by decide) ?_
      refine x_Vi (As := [.int 0]) (rest := [.ref (a 12)]) S w (goodV lk_RX4_158 li_X1_slot ls_X1_slot ln_RX1 lc_X1_slot) hV_X1_slot (k_X1_slot l D cI cO a R (triF s f N K d b mm G (Int32.toNatClampNeg q)).1 (triF s f N K d b mm G (Int32.toNatClampNeg q)).2 (K + Int32.toNatClampNeg q) 0 0 (tri_19 hK h4 h48 _) (by omega) rfl (by omega)) rfl 3 1 rfl rfl xc_3 ⟨(Nat.le_of_ble_eq_true rfl), (Nat.le_of_ble_eq_true rfl)⟩ ⟨rfl, rfl⟩ hl.1 rfl (Nat.le_of_ble_eq_true rfl) ⟨Nat.zero_le _, Nat.zero_le _⟩ dX4_simulate_52 (fun H locs (w : Wd D (kT cI cO) (va_A _ _) _ _ (xW cI cO a (triF s f N K d b mm G (Int32.toNatClampNeg q)).1 (triF s f N K d b mm G (Int32.toNatClampNeg q)).2 R) H locs) => ?_)
      refine x_eqi (x := o_X1_slot (triF s f N K d b mm G (Int32.toNatClampNeg q)).1 (triF s f N K d b mm G (Int32.toNatClampNeg q)).2 0) (y := nI (slt ((triF s f N K d b mm G (Int32.toNatClampNeg q)).1 19) 0)) rfl ?_
      refine x_iald S w 12 0 (g := (triF s f N K d b mm G (Int32.toNatClampNeg q)).2 7) (v := ((triF s f N K d b mm G (Int32.toNatClampNeg q)).2 7) (slt ((triF s f N K d b mm G (Int32.toNatClampNeg q)).1 19) 0)) (slt ((triF s f N K d b mm G (Int32.toNatClampNeg q)).1 19) 0) (slt_lt _ _) (rfl) (Nat.le_of_ble_eq_true rfl) (xc_12) rfl (rfl) dX4_simulate_55 ?_
      exact x_reti S w hr hlk dX4_simulate_56 (show ((triF s f N K d b mm G (Int32.toNatClampNeg q)).2 7) (slt ((triF s f N K d b mm G (Int32.toNatClampNeg q)).1 19) 0) = (o_X4_simulate_25 s f N K d b mm G q).1 from by simp only [o_X4_simulate_25]) (show xW cI cO a (triF s f N K d b mm G (Int32.toNatClampNeg q)).1 (triF s f N K d b mm G (Int32.toNatClampNeg q)).2 R = xW cI cO a (o_X4_simulate_25 s f N K d b mm G q).2.1 (o_X4_simulate_25 s f N K d b mm G q).2.2 R from by simp only [o_X4_simulate_25])
    · have hlt : i < Int32.toNatClampNeg q := Nat.lt_of_not_le (fun z => c_1 (nI_le z (by omega)))
      refine lv_aload_n S.1 S.2.1 dX4_simulate_30 rfl (lv_at hl 0 rfl) ?_
      refine x_Vv (As := []) (rest := []) S w (goodV lk_RX4_204 li_X4_simulateTrial ls_X4_simulateTrial ln_RX4 lc_X4_simulateTrial) hV_X4_simulateTrial (k_X4_simulateTrial l D cI cO a R (triF s f N K d b mm G i).1 (triF s f N K d b mm G i).2 N (K + i) d b mm G ((tri_s h4 h48 (by decide) (by decide) (by decide) (by decide) i).trans hN : (triF s f N K d b mm G i).1 0 = _) h4 h48 (tri_19 hK h4 h48 i) (by omega) ((tri_s h4 h48 (by decide) (by decide) (by decide) (by decide) i).trans hd : (triF s f N K d b mm G i).1 2 = _) hd8 ((tri_s h4 h48 (by decide) (by decide) (by decide) (by decide) i).trans hb : (triF s f N K d b mm G i).1 6 = _) hb1 hb10 ((tri_s h4 h48 (by decide) (by decide) (by decide) (by decide) i).trans hm : (triF s f N K d b mm G i).1 4 = _) hm4 ((tri_s h4 h48 (by decide) (by decide) (by decide) (by decide) i).trans hG : (triF s f N K d b mm G i).1 7 = _) hG5 (by rw [tri_s (j := 17) h4 h48 (by decide) (by decide) (by decide) (by decide) i]; exact hz : ¬ 2 * (triF s f N K d b mm G i).1 17 + 1 = 0)) rfl 0 4 rfl rfl xc_0 ⟨(Nat.le_of_ble_eq_true rfl), (Nat.le_of_ble_eq_true rfl)⟩ ⟨rfl, rfl⟩ hl.1 rfl (Nat.le_of_ble_eq_true rfl) ⟨Nat.zero_le _, Nat.zero_le _⟩ dX4_simulate_31 (fun H locs (w : Wd D (kT cI cO) (va_A _ _) _ _ (xW cI cO a (o_X4_simulateTrial (triF s f N K d b mm G i).1 (triF s f N K d b mm G i).2 N (K + i) d b mm G).1 (o_X4_simulateTrial (triF s f N K d b mm G i).1 (triF s f N K d b mm G i).2 N (K + i) d b mm G).2 R) H locs) => ?_)
      refine lv_iinc (v := nI (i + 1)) (lv' := [(2, .int (nI (i + 1))), (0, .ref (a 0)), (1, .int (nI (Int32.toNatClampNeg q)))]) S.1 S.2.1 dX4_simulate_34 hl (k := 2) rfl (x_inc _) (by decide) rfl (fun ls hl => ?_)
      refine lv_goto (tgt := 25) S.1 S.2.1 dX4_simulate_37 (by decide) ?_
      exact ih (i + 1) _ _ _ (by omega) hq (by omega) (w.to (show xW cI cO a (o_X4_simulateTrial (triF s f N K d b mm G i).1 (triF s f N K d b mm G i).2 N (K + i) d b mm G).1 (o_X4_simulateTrial (triF s f N K d b mm G i).1 (triF s f N K d b mm G i).2 N (K + i) d b mm G).2 R = xW cI cO a (triF s f N K d b mm G (i + 1)).1 (triF s f N K d b mm G (i + 1)).2 R from rfl)) (lv_sub hl [1, 2, 0] rfl)
def o_X4_simulate (s : Nat → Int32) (f : Nat → Nat → Int32) (N : Nat) (K : Nat) (d : Nat) (b : Nat) (mm : Nat) (G : Nat) (q : Int32) : Int32 × (Nat → Int32) × (Nat → Nat → Int32) := if (wIn q 1 20) = 0 then ((-2000000001), s, f) else if (s 11) = 0 then o_X4_simulate_25 s f N K d b mm G q else ((-2000000002), s, f)
set_option maxHeartbeats 4000000 in
set_option maxRecDepth 100000 in
theorem k_X4_simulate (l : Launch) (D : va_G) (cI cO : ClassId) (a : Nat → Nat) (R : va_W) (s : Nat → Int32) (f : Nat → Nat → Int32) (N : Nat) (K : Nat) (d : Nat) (b : Nat) (mm : Nat) (G : Nat) (q : Int32) (hN : s 0 = nI N) (h4 : 4 ≤ N) (h48 : N ≤ 48) (hK : s 19 = nI K) (hK2 : K + 21 < 1000000) (hd : s 2 = nI d) (hd8 : d ≤ 8) (hb : s 6 = nI b) (hb1 : 1 ≤ b) (hb10 : b ≤ 10) (hm : s 4 = nI mm) (hm4 : mm ≤ 4) (hG : s 7 = nI G) (hG5 : G ≤ 5) (hz : ¬ 2 * s 17 + 1 = 0) : Mi l yX4_simulate cX4_simulate 3 (some .int) { frames := 7, cells := 0, slots := 0, locals := 162 } D (kT cI cO) (xW cI cO a s f R) [.ref (a 0), .int q] (xW cI cO a (o_X4_simulate s f N K d b mm G q).2.1 (o_X4_simulate s f N K d b mm G q).2.2 R) (o_X4_simulate s f N K d b mm G q).1 := by
  intro sz
  refine ent (by decide +kernel) (Nat.le_of_ble_eq_true rfl) ?_
  intro p e st m below meth c ls S hr hlk hnm w hsz hl
  have hl : lv_has ls 3 [(0, .ref (a 0)), (1, .int q)] := hl
  refine lv_iload_n S.1 S.2.1 dX4_simulate_0 rfl (lv_at hl 1 rfl) ?_
  refine lv_iconst (v := 1) S.1 S.2.1 dX4_simulate_1 (by decide) ?_
  refine lv_bipush (v := 20) S.1 S.2.1 dX4_simulate_2 (by decide) ?_
  refine x_Si (As := [.int q, .int 1, .int 20]) (rest := []) S w (goodS lk_RX4_60 lt_X4_isWithin ln_RX4 lc_X4_isWithin) hd_X4_isWithin (k_X4_isWithin l _ _ (xW cI cO a s f R) q 1 20) rfl ⟨(Nat.le_of_ble_eq_true rfl), (Nat.le_of_ble_eq_true rfl)⟩ ⟨rfl, rfl⟩ hl.1 rfl (Nat.le_of_ble_eq_true rfl) ⟨Nat.zero_le _, Nat.zero_le _⟩ dX4_simulate_4 (fun H locs (w : Wd D (kT cI cO) (va_A _ _) _ _ (xW cI cO a s f R) H locs) => ?_)
  refine lv_if_ne (tgt := 13) S.1 S.2.1 dX4_simulate_7 (by decide) (fun (c_2 : ¬ (wIn q 1 20) = 0) => ?_) (fun (c_2 : (wIn q 1 20) = 0) => ?_)
  · have hq := wIn_tr c_2
    refine lv_aload_n S.1 S.2.1 dX4_simulate_13 rfl (lv_at hl 0 rfl) ?_
    refine xg_11 S w lk_RX4_112 dX4_simulate_14 ?_
    refine lv_if_eq (tgt := 23) S.1 S.2.1 dX4_simulate_17 (by decide) (fun (c_3 : (s 11) = 0) => ?_) (fun (c_3 : ¬ ((s 11) = 0)) => ?_)
    · refine lv_iconst (v := 0) S.1 S.2.1 dX4_simulate_23 (by decide) ?_
      refine lv_istore_n (lv' := [(2, .int 0), (0, .ref (a 0)), (1, .int q)]) S.1 S.2.1 dX4_simulate_24 rfl hl (by decide) rfl (fun ls hl => ?_)
      refine x_toi (show (o_X4_simulate_25 s f N K d b mm G q).1 = (o_X4_simulate s f N K d b mm G q).1 from by simp only [o_X4_simulate, if_neg c_2, if_pos c_3]) (show xW cI cO a (o_X4_simulate_25 s f N K d b mm G q).2.1 (o_X4_simulate_25 s f N K d b mm G q).2.2 R = xW cI cO a (o_X4_simulate s f N K d b mm G q).2.1 (o_X4_simulate s f N K d b mm G q).2.2 R from by simp only [o_X4_simulate, if_neg c_2, if_pos c_3]) ?_
      exact j_X4_simulate_25 l D cI cO a R s f N K d b mm G q hN h4 h48 hK hK2 hd hd8 hb hb1 hb10 hm hm4 hG hG5 hz S hr hlk (Int32.toNatClampNeg q + 1) 0 _ _ _ (by omega) hq.1 (by omega) (w.to (show xW cI cO a s f R = xW cI cO a (triF s f N K d b mm G 0).1 (triF s f N K d b mm G 0).2 R from rfl)) (lv_sub hl [1, 2, 0] (by rw [← hq.2]; rfl))
    · refine x_ldc S lk_RX4_115 dX4_simulate_20 ?_
      exact x_reti S w hr hlk dX4_simulate_22 (show (-2000000002) = (o_X4_simulate s f N K d b mm G q).1 from by simp only [o_X4_simulate, if_neg c_2, if_neg c_3]) (show xW cI cO a s f R = xW cI cO a (o_X4_simulate s f N K d b mm G q).2.1 (o_X4_simulate s f N K d b mm G q).2.2 R from by simp only [o_X4_simulate, if_neg c_2, if_neg c_3])
  · refine x_ldc S lk_RX4_64 dX4_simulate_10 ?_
    exact x_reti S w hr hlk dX4_simulate_12 (show (-2000000001) = (o_X4_simulate s f N K d b mm G q).1 from by simp only [o_X4_simulate, if_pos c_2]) (show xW cI cO a s f R = xW cI cO a (o_X4_simulate s f N K d b mm G q).2.1 (o_X4_simulate s f N K d b mm G q).2.2 R from by simp only [o_X4_simulate, if_pos c_2])
def o_X4_suits_4 (s : Nat → Int32) (f : Nat → Nat → Int32) (d : Nat) : Int32 := if 6 ≤ (nI d) then if 1000000 < ((sumL (fun y => if y = d then 0 else labs (Int32.toInt64 (s 1) * Int32.toInt64 (f 6 y))) 6) + (labs (1000000 - ((Int32.toInt64 (s 1)) * (Int32.toInt64 0))))) then onI 0 else onI 1 else if 1000000 < ((sumL (fun y => if y = d then 0 else labs (Int32.toInt64 (s 1) * Int32.toInt64 (f 6 y))) 6) + (labs (1000000 - ((Int32.toInt64 (s 1)) * (Int32.toInt64 ((f 6) d)))))) then onI 0 else onI 1
set_option maxHeartbeats 4000000 in
set_option maxRecDepth 100000 in
theorem j_X4_suits_4 {p : Program} {e : Env} {st : State} {m : MethodId} {args : Array Value} {below : List Frame} {meth : Method} {c : Code} {ws0 : va_W} {sz : Nat} (l : Launch) (D : va_G) (cI cO : ClassId) (a : Nat → Nat) (R : va_W) (s : Nat → Int32) (f : Nat → Nat → Int32) (d : Nat) (hd : s 2 = nI d) (hd8 : d ≤ 8) (S : CallFix p m c cX4_suits 4 st args wsL_law RX4) (hr : meth.sig.returnType = (some .int)) (hlk : meth.locks = false) : ∀ (n : Nat) (i : Nat) (H : Heap) (locs : List Loc) (ls : Array Slot), 7 ≤ i + n → i ≤ 6 → Wd D (kT cI cO) (va_A ws0 sz) st.heap st (xW cI cO a s f R) H locs → lv_has ls 4 [(0, .ref (a 0)), (1, .long (sumL (fun y => if y = d then 0 else labs (Int32.toInt64 (s 1) * Int32.toInt64 (f 6 y))) i)), (3, .int (nI i))] → W p l e { frames := 1, cells := 0, slots := 0, locals := 20 } st m args below meth c H locs 0 0 (MQ below (mQi D (kT cI cO) ws0 sz (xW cI cO a s f R) (o_X4_suits_4 s f d)) args st 0 0 (va_A ws0 sz)) (F0 m 4 ls []) := by
  intro n
  induction n with
  | zero => intro i H locs ls hfu hi w hl; exact absurd hfu (by omega)
  | succ n ih =>
    intro i H locs ls hfu hi w hl
    refine lv_iload_n S.1 S.2.1 dX4_suits_4 rfl (lv_at hl 2 rfl) ?_
    refine lv_bipush (v := 6) S.1 S.2.1 dX4_suits_5 (by decide) ?_
    refine lv_icmp_ge (tgt := 52) S.1 S.2.1 dX4_suits_7 (by decide) (fun (c_1 : 6 ≤ (nI i)) => ?_) (fun (c_1 : ¬ (6 ≤ (nI i))) => ?_)
    · have he : i = 6 := by
        have := (nI_leI (a := 6) (b := i) (by omega) (by omega)).mp c_1
        omega
      subst i
      refine lv_aload_n S.1 S.2.1 dX4_suits_52 rfl (lv_at hl 0 rfl) ?_
      refine xr_1 S w lk_RX4_10 dX4_suits_53 ?_
      refine xg_2 S w lk_RX4_79 dX4_suits_56 ?_
      refine x_eqi (x := s 2) (y := nI d) (hd) ?_
      refine lv_bipush (v := 6) S.1 S.2.1 dX4_suits_59 (by decide) ?_
      refine lv_icmp_ge (tgt := 82) S.1 S.2.1 dX4_suits_61 (by decide) (fun (c_2 : 6 ≤ (nI d)) => ?_) (fun (c_2 : ¬ (6 ≤ (nI d))) => ?_)
      · refine lv_iconst (v := 0) S.1 S.2.1 dX4_suits_82 (by decide) ?_
        refine lv_istore_n (lv' := [(3, .int 0), (0, .ref (a 0)), (1, .long (sumL (fun y => if y = d then 0 else labs (Int32.toInt64 (s 1) * Int32.toInt64 (f 6 y))) 6))]) S.1 S.2.1 dX4_suits_83 rfl hl (by decide) rfl (fun ls hl => ?_)
        refine lv_lload_n S.1 S.2.1 dX4_suits_84 rfl (lv_at hl 2 rfl) ?_
        refine x_ldc2 S lk_RX4_213 dX4_suits_85 ?_
        refine lv_aload_n S.1 S.2.1 dX4_suits_88 rfl (lv_at hl 1 rfl) ?_
        refine xr_1 S w lk_RX4_10 dX4_suits_89 ?_
        refine xg_1 S w lk_RX4_76 dX4_suits_92 ?_
        refine lv_i2l S.1 S.2.1 dX4_suits_95 rfl ?_
        refine lv_iload_n S.1 S.2.1 dX4_suits_96 rfl (lv_at hl 0 rfl) ?_
        refine lv_i2l S.1 S.2.1 dX4_suits_97 rfl ?_
        refine lv_lmul S.1 S.2.1 dX4_suits_98 ?_
        refine lv_lsub S.1 S.2.1 dX4_suits_99 ?_
        refine x_mabsl S lk_RX4_207 hl.1 (Nat.le_of_ble_eq_true rfl) (Nat.le_of_ble_eq_true rfl) (Nat.zero_le _) (Nat.zero_le _) dX4_suits_100 ?_
        refine lv_ladd S.1 S.2.1 dX4_suits_103 ?_
        refine lv_lstore_n (lv' := [(1, .long ((sumL (fun y => if y = d then 0 else labs (Int32.toInt64 (s 1) * Int32.toInt64 (f 6 y))) 6) + (labs (1000000 - ((Int32.toInt64 (s 1)) * (Int32.toInt64 0)))))), (3, .int 0), (0, .ref (a 0))]) S.1 S.2.1 dX4_suits_104 rfl hl (by decide) rfl (fun ls hl => ?_)
        refine lv_lload_n S.1 S.2.1 dX4_suits_105 rfl (lv_at hl 0 rfl) ?_
        refine x_ldc2 S lk_RX4_213 dX4_suits_106 ?_
        refine x_lif_gt (tgt := 117) S.1 S.2.1 dX4_suits_109 dX4_suits_110 (by decide) (fun (c_3 : 1000000 < ((sumL (fun y => if y = d then 0 else labs (Int32.toInt64 (s 1) * Int32.toInt64 (f 6 y))) 6) + (labs (1000000 - ((Int32.toInt64 (s 1)) * (Int32.toInt64 0)))))) => ?_) (fun (c_3 : ¬ (1000000 < ((sumL (fun y => if y = d then 0 else labs (Int32.toInt64 (s 1) * Int32.toInt64 (f 6 y))) 6) + (labs (1000000 - ((Int32.toInt64 (s 1)) * (Int32.toInt64 0))))))) => ?_)
        · refine lv_iconst (v := 0) S.1 S.2.1 dX4_suits_117 (by decide) ?_
          refine x_Si (As := [.int 0]) (rest := []) S w (goodS lk_RX4_82 lt_X4_oneIf ln_RX4 lc_X4_oneIf) hd_X4_oneIf (k_X4_oneIf l _ _ (xW cI cO a s f R) 0) rfl ⟨(Nat.le_of_ble_eq_true rfl), (Nat.le_of_ble_eq_true rfl)⟩ ⟨rfl, rfl⟩ hl.1 rfl (Nat.le_of_ble_eq_true rfl) ⟨Nat.zero_le _, Nat.zero_le _⟩ dX4_suits_118 (fun H locs (w : Wd D (kT cI cO) (va_A _ _) _ _ (xW cI cO a s f R) H locs) => ?_)
          exact x_reti S w hr hlk dX4_suits_121 (show onI 0 = o_X4_suits_4 s f d from by simp only [o_X4_suits_4, if_pos c_2, if_pos c_3]) (show xW cI cO a s f R = xW cI cO a s f R from rfl)
        · refine lv_iconst (v := 1) S.1 S.2.1 dX4_suits_113 (by decide) ?_
          refine lv_goto (tgt := 118) S.1 S.2.1 dX4_suits_114 (by decide) ?_
          refine x_Si (As := [.int 1]) (rest := []) S w (goodS lk_RX4_82 lt_X4_oneIf ln_RX4 lc_X4_oneIf) hd_X4_oneIf (k_X4_oneIf l _ _ (xW cI cO a s f R) 1) rfl ⟨(Nat.le_of_ble_eq_true rfl), (Nat.le_of_ble_eq_true rfl)⟩ ⟨rfl, rfl⟩ hl.1 rfl (Nat.le_of_ble_eq_true rfl) ⟨Nat.zero_le _, Nat.zero_le _⟩ dX4_suits_118 (fun H locs (w : Wd D (kT cI cO) (va_A _ _) _ _ (xW cI cO a s f R) H locs) => ?_)
          exact x_reti S w hr hlk dX4_suits_121 (show onI 1 = o_X4_suits_4 s f d from by simp only [o_X4_suits_4, if_pos c_2, if_neg c_3]) (show xW cI cO a s f R = xW cI cO a s f R from rfl)
      · have hd6 : d < 6 := Nat.lt_of_not_le (fun z => c_2 (nI_le (a := 6) z (by omega)))
        refine lv_aload_n S.1 S.2.1 dX4_suits_64 rfl (lv_at hl 0 rfl) ?_
        refine xr_2 S w lk_RX4_19 dX4_suits_65 ?_
        refine xr_11 S w lk_RX4_195 dX4_suits_68 ?_
        refine lv_aload_n S.1 S.2.1 dX4_suits_71 rfl (lv_at hl 0 rfl) ?_
        refine xr_1 S w lk_RX4_10 dX4_suits_72 ?_
        refine xg_2 S w lk_RX4_79 dX4_suits_75 ?_
        refine x_eqi (x := s 2) (y := nI d) (hd) ?_
        refine x_iald S w 11 0 (g := f 6) (v := (f 6) d) d (by omega) (rfl) (Nat.le_of_ble_eq_true rfl) (xc_11) rfl (rfl) dX4_suits_78 ?_
        refine lv_goto (tgt := 83) S.1 S.2.1 dX4_suits_79 (by decide) ?_
        refine lv_istore_n (lv' := [(3, .int ((f 6) d)), (0, .ref (a 0)), (1, .long (sumL (fun y => if y = d then 0 else labs (Int32.toInt64 (s 1) * Int32.toInt64 (f 6 y))) 6))]) S.1 S.2.1 dX4_suits_83 rfl hl (by decide) rfl (fun ls hl => ?_)
        refine lv_lload_n S.1 S.2.1 dX4_suits_84 rfl (lv_at hl 2 rfl) ?_
        refine x_ldc2 S lk_RX4_213 dX4_suits_85 ?_
        refine lv_aload_n S.1 S.2.1 dX4_suits_88 rfl (lv_at hl 1 rfl) ?_
        refine xr_1 S w lk_RX4_10 dX4_suits_89 ?_
        refine xg_1 S w lk_RX4_76 dX4_suits_92 ?_
        refine lv_i2l S.1 S.2.1 dX4_suits_95 rfl ?_
        refine lv_iload_n S.1 S.2.1 dX4_suits_96 rfl (lv_at hl 0 rfl) ?_
        refine lv_i2l S.1 S.2.1 dX4_suits_97 rfl ?_
        refine lv_lmul S.1 S.2.1 dX4_suits_98 ?_
        refine lv_lsub S.1 S.2.1 dX4_suits_99 ?_
        refine x_mabsl S lk_RX4_207 hl.1 (Nat.le_of_ble_eq_true rfl) (Nat.le_of_ble_eq_true rfl) (Nat.zero_le _) (Nat.zero_le _) dX4_suits_100 ?_
        refine lv_ladd S.1 S.2.1 dX4_suits_103 ?_
        refine lv_lstore_n (lv' := [(1, .long ((sumL (fun y => if y = d then 0 else labs (Int32.toInt64 (s 1) * Int32.toInt64 (f 6 y))) 6) + (labs (1000000 - ((Int32.toInt64 (s 1)) * (Int32.toInt64 ((f 6) d))))))), (3, .int ((f 6) d)), (0, .ref (a 0))]) S.1 S.2.1 dX4_suits_104 rfl hl (by decide) rfl (fun ls hl => ?_)
        refine lv_lload_n S.1 S.2.1 dX4_suits_105 rfl (lv_at hl 0 rfl) ?_
        refine x_ldc2 S lk_RX4_213 dX4_suits_106 ?_
        refine x_lif_gt (tgt := 117) S.1 S.2.1 dX4_suits_109 dX4_suits_110 (by decide) (fun (c_4 : 1000000 < ((sumL (fun y => if y = d then 0 else labs (Int32.toInt64 (s 1) * Int32.toInt64 (f 6 y))) 6) + (labs (1000000 - ((Int32.toInt64 (s 1)) * (Int32.toInt64 ((f 6) d))))))) => ?_) (fun (c_4 : ¬ (1000000 < ((sumL (fun y => if y = d then 0 else labs (Int32.toInt64 (s 1) * Int32.toInt64 (f 6 y))) 6) + (labs (1000000 - ((Int32.toInt64 (s 1)) * (Int32.toInt64 ((f 6) d)))))))) => ?_)
        · refine lv_iconst (v := 0) S.1 S.2.1 dX4_suits_117 (by decide) ?_
          refine x_Si (As := [.int 0]) (rest := []) S w (goodS lk_RX4_82 lt_X4_oneIf ln_RX4 lc_X4_oneIf) hd_X4_oneIf (k_X4_oneIf l _ _ (xW cI cO a s f R) 0) rfl ⟨(Nat.le_of_ble_eq_true rfl), (Nat.le_of_ble_eq_true rfl)⟩ ⟨rfl, rfl⟩ hl.1 rfl (Nat.le_of_ble_eq_true rfl) ⟨Nat.zero_le _, Nat.zero_le _⟩ dX4_suits_118 (fun H locs (w : Wd D (kT cI cO) (va_A _ _) _ _ (xW cI cO a s f R) H locs) => ?_)
          exact x_reti S w hr hlk dX4_suits_121 (show onI 0 = o_X4_suits_4 s f d from by simp only [o_X4_suits_4, if_neg c_2, if_pos c_4]) (show xW cI cO a s f R = xW cI cO a s f R from rfl)
        · refine lv_iconst (v := 1) S.1 S.2.1 dX4_suits_113 (by decide) ?_
          refine lv_goto (tgt := 118) S.1 S.2.1 dX4_suits_114 (by decide) ?_
          refine x_Si (As := [.int 1]) (rest := []) S w (goodS lk_RX4_82 lt_X4_oneIf ln_RX4 lc_X4_oneIf) hd_X4_oneIf (k_X4_oneIf l _ _ (xW cI cO a s f R) 1) rfl ⟨(Nat.le_of_ble_eq_true rfl), (Nat.le_of_ble_eq_true rfl)⟩ ⟨rfl, rfl⟩ hl.1 rfl (Nat.le_of_ble_eq_true rfl) ⟨Nat.zero_le _, Nat.zero_le _⟩ dX4_suits_118 (fun H locs (w : Wd D (kT cI cO) (va_A _ _) _ _ (xW cI cO a s f R) H locs) => ?_)
          exact x_reti S w hr hlk dX4_suits_121 (show onI 1 = o_X4_suits_4 s f d from by simp only [o_X4_suits_4, if_neg c_2, if_neg c_4]) (show xW cI cO a s f R = xW cI cO a s f R from rfl)
    · have hlt : i < 6 := Nat.lt_of_not_le (fun z => c_1 (nI_le z (by omega)))
      refine lv_iload_n S.1 S.2.1 dX4_suits_10 rfl (lv_at hl 2 rfl) ?_
      refine lv_aload_n S.1 S.2.1 dX4_suits_11 rfl (lv_at hl 0 rfl) ?_
      refine xr_1 S w lk_RX4_10 dX4_suits_12 ?_
      refine xg_2 S w lk_RX4_79 dX4_suits_15 ?_
      refine x_eqi (x := s 2) (y := nI d) (hd) ?_
      refine lv_icmp_eq (tgt := 46) S.1 S.2.1 dX4_suits_18 (by decide) (fun (c_5 : (nI i) = (nI d)) => ?_) (fun (c_5 : ¬ ((nI i) = (nI d))) => ?_)
      · have hs : sumL (fun y => if y = d then 0 else labs (Int32.toInt64 (s 1) * Int32.toInt64 (f 6 y))) i = sumL (fun y => if y = d then 0 else labs (Int32.toInt64 (s 1) * Int32.toInt64 (f 6 y))) (i + 1) := by
          have := (nI_eq (a := i) (b := d) (by omega) (by omega)).mp c_5
          show _ = sumL (fun y => if y = d then 0 else labs (Int32.toInt64 (s 1) * Int32.toInt64 (f 6 y))) i + (if i = d then 0 else _)
          rw [if_pos this]; exact (Int64.add_zero _).symm
        refine lv_iinc (v := nI (i + 1)) (lv' := [(3, .int (nI (i + 1))), (0, .ref (a 0)), (1, .long (sumL (fun y => if y = d then 0 else labs (Int32.toInt64 (s 1) * Int32.toInt64 (f 6 y))) i))]) S.1 S.2.1 dX4_suits_46 hl (k := 2) rfl (x_inc _) (by decide) rfl (fun ls hl => ?_)
        refine lv_goto (tgt := 4) S.1 S.2.1 dX4_suits_49 (by decide) ?_
        exact ih (i + 1) _ _ _ (by omega) (by omega) w (lv_sub hl [1, 2, 0] (by rw [← hs]; rfl))
      · have hs : sumL (fun y => if y = d then 0 else labs (Int32.toInt64 (s 1) * Int32.toInt64 (f 6 y))) i + labs (Int32.toInt64 (s 1) * Int32.toInt64 (f 6 i)) = sumL (fun y => if y = d then 0 else labs (Int32.toInt64 (s 1) * Int32.toInt64 (f 6 y))) (i + 1) := by
          show _ = sumL (fun y => if y = d then 0 else labs (Int32.toInt64 (s 1) * Int32.toInt64 (f 6 y))) i + (if i = d then 0 else _)
          rw [if_neg (fun z => c_5 (by rw [z]))]
        refine lv_lload_n S.1 S.2.1 dX4_suits_21 rfl (lv_at hl 1 rfl) ?_
        refine lv_aload_n S.1 S.2.1 dX4_suits_22 rfl (lv_at hl 0 rfl) ?_
        refine xr_1 S w lk_RX4_10 dX4_suits_23 ?_
        refine xg_1 S w lk_RX4_76 dX4_suits_26 ?_
        refine lv_i2l S.1 S.2.1 dX4_suits_29 rfl ?_
        refine lv_aload_n S.1 S.2.1 dX4_suits_30 rfl (lv_at hl 0 rfl) ?_
        refine xr_2 S w lk_RX4_19 dX4_suits_31 ?_
        refine xr_11 S w lk_RX4_195 dX4_suits_34 ?_
        refine lv_iload_n S.1 S.2.1 dX4_suits_37 rfl (lv_at hl 2 rfl) ?_
        refine x_iald S w 11 0 (g := f 6) (v := (f 6) i) i (by omega) (rfl) (Nat.le_of_ble_eq_true rfl) (xc_11) rfl (rfl) dX4_suits_38 ?_
        refine lv_i2l S.1 S.2.1 dX4_suits_39 rfl ?_
        refine lv_lmul S.1 S.2.1 dX4_suits_40 ?_
        refine x_mabsl S lk_RX4_207 hl.1 (Nat.le_of_ble_eq_true rfl) (Nat.le_of_ble_eq_true rfl) (Nat.zero_le _) (Nat.zero_le _) dX4_suits_41 ?_
        refine lv_ladd S.1 S.2.1 dX4_suits_44 ?_
        refine lv_lstore_n (lv' := [(1, .long ((sumL (fun y => if y = d then 0 else labs (Int32.toInt64 (s 1) * Int32.toInt64 (f 6 y))) i) + (labs ((Int32.toInt64 (s 1)) * (Int32.toInt64 ((f 6) i)))))), (0, .ref (a 0)), (3, .int (nI i))]) S.1 S.2.1 dX4_suits_45 rfl hl (by decide) rfl (fun ls hl => ?_)
        refine lv_iinc (v := nI (i + 1)) (lv' := [(3, .int (nI (i + 1))), (1, .long ((sumL (fun y => if y = d then 0 else labs (Int32.toInt64 (s 1) * Int32.toInt64 (f 6 y))) i) + (labs ((Int32.toInt64 (s 1)) * (Int32.toInt64 ((f 6) i)))))), (0, .ref (a 0))]) S.1 S.2.1 dX4_suits_46 hl (k := 2) rfl (x_inc _) (by decide) rfl (fun ls hl => ?_)
        refine lv_goto (tgt := 4) S.1 S.2.1 dX4_suits_49 (by decide) ?_
        exact ih (i + 1) _ _ _ (by omega) (by omega) w (lv_sub hl [2, 1, 0] (by rw [← hs]; rfl))
def o_X4_suits (s : Nat → Int32) (f : Nat → Nat → Int32) (d : Nat) : Int32 := o_X4_suits_4 s f d
set_option maxHeartbeats 4000000 in
set_option maxRecDepth 100000 in
theorem k_X4_suits (l : Launch) (D : va_G) (cI cO : ClassId) (a : Nat → Nat) (R : va_W) (s : Nat → Int32) (f : Nat → Nat → Int32) (d : Nat) (hd : s 2 = nI d) (hd8 : d ≤ 8) : Mi l yX4_suits cX4_suits 4 (some .int) { frames := 1, cells := 0, slots := 0, locals := 20 } D (kT cI cO) (xW cI cO a s f R) [.ref (a 0)] (xW cI cO a s f R) (o_X4_suits s f d) := by
  intro sz
  refine ent (by decide +kernel) (Nat.le_of_ble_eq_true rfl) ?_
  intro p e st m below meth c ls S hr hlk hnm w hsz hl
  have hl : lv_has ls 4 [(0, .ref (a 0))] := hl
  refine lv_lconst (v := 0) S.1 S.2.1 dX4_suits_0 (by decide) ?_
  refine lv_lstore_n (lv' := [(1, .long 0), (0, .ref (a 0))]) S.1 S.2.1 dX4_suits_1 rfl hl (by decide) rfl (fun ls hl => ?_)
  refine lv_iconst (v := 0) S.1 S.2.1 dX4_suits_2 (by decide) ?_
  refine lv_istore_n (lv' := [(3, .int 0), (1, .long 0), (0, .ref (a 0))]) S.1 S.2.1 dX4_suits_3 rfl hl (by decide) rfl (fun ls hl => ?_)
  refine x_toi (show o_X4_suits_4 s f d = o_X4_suits s f d from by simp only [o_X4_suits]) (show xW cI cO a s f R = xW cI cO a s f R from by simp only [o_X4_suits]) ?_
  exact j_X4_suits_4 l D cI cO a R s f d hd hd8 S hr hlk 7 0 _ _ _ (by omega) (by omega) w (lv_sub hl [2, 1, 0] rfl)
