section LAWC
variable {p : Program} {l : Launch} {e : Env} {s : State} {m : MethodId} {below : List Frame} {meth : Method} {c : Code} {H : Heap} {locs : List Loc} {cells slots : Nat} {Q : State → Prop} {args : Array Value} 
variable {pc : Nat} {ls : Array Slot} {rest : List Value} {D : va_G} {tys : List (ClassId × FieldType)} {cI cO : ClassId} {ws : va_W} {b L i : Nat} {xs : Nat → Int32}
variable {a a' : Nat → Nat} {sx sm : Nat → Int32} {fx fm : Nat → Nat → Int32} {B : Nat} {v : Nat → Nat}
theorem lc_reference (S : CallFix p m c cL_law 4 s args wsL_law RL) (hX : va_X b L xs s s.heap) (hb : b < s.heap.size) (hl : lv_has ls 4 [(3, .int (nI i)), (2, .ref (a' 0)), (1, .ref (a 0)), (0, .ref b)]) (hi : i + 3 ≤ L) (hL : L ≤ 1536) (w : Wd D (kT cI cO) (lwA s) s.heap s (xW cI cO a sx fx (mW cI cO a' sm fm [])) H locs) (h : Rel B v sx fx sm fm) (hB : B + 60 < 1000000) (KK : LK p l e s m args below meth c Q ls D cI cO a a' (B + 48)) : W p l e room_1 s m args below meth c H locs 600000 7302250 Q (F0 m 559 ls []) := by
  have E := sim_reference h (v 0) (v 0) (xs (i + 1))
  refine lv_aload_n S.1 S.2.1 dL_law_559 rfl (lv_at hl 2 rfl) ?_
  refine x_sc1 S hX hb w hl hi hL dL_law_560 dL_law_561 dL_law_562 dL_law_563 dL_law_564 ?_
  refine x_Vi (As := [.int (xs (i + 1))]) (rest := []) S w (goodV lk_RL_77 li_X4_reference ls_X4_reference ln_RX4 lc_X4_reference) hV_X4_reference (k_X4_reference l D cI cO a (mW cI cO a' sm fm []) sx fx (v 0) (xs (i + 1)) (h.n 0 rfl) h.1.1.1 h.1.1.2) rfl 0 4 rfl rfl xc_0 ⟨(Nat.le_of_ble_eq_true rfl), (Nat.le_of_ble_eq_true rfl)⟩ ⟨rfl, rfl⟩ hl.1 rfl (Nat.le_of_ble_eq_true rfl) ⟨(Nat.le_of_ble_eq_true rfl), (Nat.le_of_ble_eq_true rfl)⟩ dL_law_565 (fun H locs (w : Wd D (kT cI cO) (lwA s) s.heap s (xW cI cO a sx fx (mW cI cO a' sm fm [])) H locs) => ?_)
  have w := swX w
  refine lv_aload_n S.1 S.2.1 dL_law_568 rfl (lv_at hl 1 rfl) ?_
  refine x_sc1 S hX hb w hl hi hL dL_law_569 dL_law_570 dL_law_571 dL_law_572 dL_law_573 ?_
  refine x_Vi (As := [.int (xs (i + 1))]) (rest := [.int (o_X4_reference sx fx (v 0) (xs (i + 1)))]) S w (goodV lk_RL_80 li_X5_reference ls_X5_reference ln_RX5 lc_X5_reference) hV_X5_reference (k_X5_reference l D cI cO a' (xW cI cO a sx fx []) sm fm (v 0) (xs (i + 1)) (h.n' 0 rfl (by decide)) h.1.1.1 h.1.1.2) rfl 0 5 rfl rfl mc_0 ⟨(Nat.le_of_ble_eq_true rfl), (Nat.le_of_ble_eq_true rfl)⟩ ⟨rfl, rfl⟩ hl.1 rfl (Nat.le_of_ble_eq_true rfl) ⟨(Nat.le_of_ble_eq_true rfl), (Nat.le_of_ble_eq_true rfl)⟩ dL_law_574 (fun H locs (w : Wd D (kT cI cO) (lwA s) s.heap s (mW cI cO a' sm fm (xW cI cO a sx fx [])) H locs) => ?_)
  have w := swM w
  refine lv_icmp_eq (tgt := 915) S.1 S.2.1 dL_law_577 (by decide) (fun _ => ?_) (fun z => absurd E z)
  exact KK _ _ _ _ _ H locs (h.mono (by omega)) w
theorem lc_count (S : CallFix p m c cL_law 4 s args wsL_law RL) (hX : va_X b L xs s s.heap) (hb : b < s.heap.size) (hl : lv_has ls 4 [(3, .int (nI i)), (2, .ref (a' 0)), (1, .ref (a 0)), (0, .ref b)]) (hi : i + 3 ≤ L) (hL : L ≤ 1536) (w : Wd D (kT cI cO) (lwA s) s.heap s (xW cI cO a sx fx (mW cI cO a' sm fm [])) H locs) (h : Rel B v sx fx sm fm) (hB : B + 60 < 1000000) (KK : LK p l e s m args below meth c Q ls D cI cO a a' (B + 48)) : W p l e room_1 s m args below meth c H locs 600000 7302250 Q (F0 m 582 ls []) := by
  have E := sim_count h (xs (i + 1))
  refine lv_aload_n S.1 S.2.1 dL_law_582 rfl (lv_at hl 2 rfl) ?_
  refine x_sc1 S hX hb w hl hi hL dL_law_583 dL_law_584 dL_law_585 dL_law_586 dL_law_587 ?_
  refine x_Vi (As := [.int (xs (i + 1))]) (rest := []) S w (goodV lk_RL_81 li_X4_count ls_X4_count ln_RX4 lc_X4_count) hV_X4_count (k_X4_count l D cI cO a (mW cI cO a' sm fm []) sx fx (xs (i + 1))) rfl 0 4 rfl rfl xc_0 ⟨(Nat.le_of_ble_eq_true rfl), (Nat.le_of_ble_eq_true rfl)⟩ ⟨rfl, rfl⟩ hl.1 rfl (Nat.le_of_ble_eq_true rfl) ⟨(Nat.le_of_ble_eq_true rfl), (Nat.le_of_ble_eq_true rfl)⟩ dL_law_588 (fun H locs (w : Wd D (kT cI cO) (lwA s) s.heap s (xW cI cO a sx fx (mW cI cO a' sm fm [])) H locs) => ?_)
  have w := swX w
  refine lv_aload_n S.1 S.2.1 dL_law_591 rfl (lv_at hl 1 rfl) ?_
  refine x_sc1 S hX hb w hl hi hL dL_law_592 dL_law_593 dL_law_594 dL_law_595 dL_law_596 ?_
  refine x_Vi (As := [.int (xs (i + 1))]) (rest := [.int (o_X4_count sx fx (xs (i + 1)))]) S w (goodV lk_RL_84 li_X5_count ls_X5_count ln_RX5 lc_X5_count) hV_X5_count (k_X5_count l D cI cO a' (xW cI cO a sx fx []) sm fm (xs (i + 1))) rfl 0 5 rfl rfl mc_0 ⟨(Nat.le_of_ble_eq_true rfl), (Nat.le_of_ble_eq_true rfl)⟩ ⟨rfl, rfl⟩ hl.1 rfl (Nat.le_of_ble_eq_true rfl) ⟨(Nat.le_of_ble_eq_true rfl), (Nat.le_of_ble_eq_true rfl)⟩ dL_law_597 (fun H locs (w : Wd D (kT cI cO) (lwA s) s.heap s (mW cI cO a' sm fm (xW cI cO a sx fx [])) H locs) => ?_)
  have w := swM w
  refine lv_icmp_eq (tgt := 915) S.1 S.2.1 dL_law_600 (by decide) (fun _ => ?_) (fun z => absurd E z)
  exact KK _ _ _ _ _ H locs (h.mono (by omega)) w
theorem lc_error (S : CallFix p m c cL_law 4 s args wsL_law RL) (hX : va_X b L xs s s.heap) (hb : b < s.heap.size) (hl : lv_has ls 4 [(3, .int (nI i)), (2, .ref (a' 0)), (1, .ref (a 0)), (0, .ref b)]) (hi : i + 3 ≤ L) (hL : L ≤ 1536) (w : Wd D (kT cI cO) (lwA s) s.heap s (xW cI cO a sx fx (mW cI cO a' sm fm [])) H locs) (h : Rel B v sx fx sm fm) (hB : B + 60 < 1000000) (KK : LK p l e s m args below meth c Q ls D cI cO a a' (B + 48)) : W p l e room_1 s m args below meth c H locs 600000 7302250 Q (F0 m 605 ls []) := by
  have E := sim_error h (by omega) (xs (i + 1)) (xs (i + 2))
  refine lv_aload_n S.1 S.2.1 dL_law_605 rfl (lv_at hl 2 rfl) ?_
  refine x_sc1 S hX hb w hl hi hL dL_law_606 dL_law_607 dL_law_608 dL_law_609 dL_law_610 ?_
  refine x_sc2 S hX hb w hl hi hL dL_law_611 dL_law_612 dL_law_613 dL_law_614 dL_law_615 ?_
  refine x_Vi (As := [.int (xs (i + 1)), .int (xs (i + 2))]) (rest := []) S w (goodV lk_RL_85 li_X4_error ls_X4_error ln_RX4 lc_X4_error) hV_X4_error (k_X4_error l D cI cO a (mW cI cO a' sm fm []) sx fx (v 0) (v 19) (xs (i + 1)) (xs (i + 2)) (h.n 0 rfl) h.1.1.1 h.1.1.2 (h.n 19 rfl) (h.k19 (n := 0) hB (by decide))) rfl 0 4 rfl rfl xc_0 ⟨(Nat.le_of_ble_eq_true rfl), (Nat.le_of_ble_eq_true rfl)⟩ ⟨rfl, rfl⟩ hl.1 rfl (Nat.le_of_ble_eq_true rfl) ⟨(Nat.le_of_ble_eq_true rfl), (Nat.le_of_ble_eq_true rfl)⟩ dL_law_616 (fun H locs (w : Wd D (kT cI cO) (lwA s) s.heap s (xW cI cO a sx fx (mW cI cO a' sm fm [])) H locs) => ?_)
  have w := swX w
  refine lv_aload_n S.1 S.2.1 dL_law_619 rfl (lv_at hl 1 rfl) ?_
  refine x_sc1 S hX hb w hl hi hL dL_law_620 dL_law_621 dL_law_622 dL_law_623 dL_law_624 ?_
  refine x_sc2 S hX hb w hl hi hL dL_law_625 dL_law_626 dL_law_627 dL_law_628 dL_law_629 ?_
  refine x_Vi (As := [.int (xs (i + 1)), .int (xs (i + 2))]) (rest := [.int (o_X4_error sx fx (xs (i + 1)) (xs (i + 2)))]) S w (goodV lk_RL_88 li_X5_error ls_X5_error ln_RX5 lc_X5_error) hV_X5_error (k_X5_error l D cI cO a' (xW cI cO a sx fx []) sm fm (v 0) (xs (i + 1)) (xs (i + 2)) (h.n' 0 rfl (by decide)) h.1.1.1 h.1.1.2) rfl 0 5 rfl rfl mc_0 ⟨(Nat.le_of_ble_eq_true rfl), (Nat.le_of_ble_eq_true rfl)⟩ ⟨rfl, rfl⟩ hl.1 rfl (Nat.le_of_ble_eq_true rfl) ⟨(Nat.le_of_ble_eq_true rfl), (Nat.le_of_ble_eq_true rfl)⟩ dL_law_630 (fun H locs (w : Wd D (kT cI cO) (lwA s) s.heap s (mW cI cO a' sm fm (xW cI cO a sx fx [])) H locs) => ?_)
  have w := swM w
  refine lv_icmp_eq (tgt := 915) S.1 S.2.1 dL_law_633 (by decide) (fun _ => ?_) (fun z => absurd E z)
  exact KK _ _ _ _ _ H locs (h.mono (by omega)) w
theorem lc_norm (S : CallFix p m c cL_law 4 s args wsL_law RL) (hX : va_X b L xs s s.heap) (hb : b < s.heap.size) (hl : lv_has ls 4 [(3, .int (nI i)), (2, .ref (a' 0)), (1, .ref (a 0)), (0, .ref b)]) (hi : i + 3 ≤ L) (hL : L ≤ 1536) (w : Wd D (kT cI cO) (lwA s) s.heap s (xW cI cO a sx fx (mW cI cO a' sm fm [])) H locs) (h : Rel B v sx fx sm fm) (hB : B + 60 < 1000000) (KK : LK p l e s m args below meth c Q ls D cI cO a a' (B + 48)) : W p l e room_1 s m args below meth c H locs 600000 7302250 Q (F0 m 638 ls []) := by
  have E := sim_norm h (by omega) (xs (i + 1))
  refine lv_aload_n S.1 S.2.1 dL_law_638 rfl (lv_at hl 2 rfl) ?_
  refine x_sc1 S hX hb w hl hi hL dL_law_639 dL_law_640 dL_law_641 dL_law_642 dL_law_643 ?_
  refine x_Vi (As := [.int (xs (i + 1))]) (rest := []) S w (goodV lk_RL_89 li_X4_norm ls_X4_norm ln_RX4 lc_X4_norm) hV_X4_norm (k_X4_norm l D cI cO a (mW cI cO a' sm fm []) sx fx (v 19) (xs (i + 1)) (h.n 19 rfl) (h.k19 (n := 0) hB (by decide))) rfl 0 4 rfl rfl xc_0 ⟨(Nat.le_of_ble_eq_true rfl), (Nat.le_of_ble_eq_true rfl)⟩ ⟨rfl, rfl⟩ hl.1 rfl (Nat.le_of_ble_eq_true rfl) ⟨(Nat.le_of_ble_eq_true rfl), (Nat.le_of_ble_eq_true rfl)⟩ dL_law_644 (fun H locs (w : Wd D (kT cI cO) (lwA s) s.heap s (xW cI cO a sx fx (mW cI cO a' sm fm [])) H locs) => ?_)
  have w := swX w
  refine lv_aload_n S.1 S.2.1 dL_law_647 rfl (lv_at hl 1 rfl) ?_
  refine x_sc1 S hX hb w hl hi hL dL_law_648 dL_law_649 dL_law_650 dL_law_651 dL_law_652 ?_
  refine x_Vi (As := [.int (xs (i + 1))]) (rest := [.int (o_X4_norm sx fx (xs (i + 1)))]) S w (goodV lk_RL_92 li_X5_norm ls_X5_norm ln_RX5 lc_X5_norm) hV_X5_norm (k_X5_norm l D cI cO a' (xW cI cO a sx fx []) sm fm (xs (i + 1))) rfl 0 5 rfl rfl mc_0 ⟨(Nat.le_of_ble_eq_true rfl), (Nat.le_of_ble_eq_true rfl)⟩ ⟨rfl, rfl⟩ hl.1 rfl (Nat.le_of_ble_eq_true rfl) ⟨(Nat.le_of_ble_eq_true rfl), (Nat.le_of_ble_eq_true rfl)⟩ dL_law_653 (fun H locs (w : Wd D (kT cI cO) (lwA s) s.heap s (mW cI cO a' sm fm (xW cI cO a sx fx [])) H locs) => ?_)
  have w := swM w
  refine lv_icmp_eq (tgt := 915) S.1 S.2.1 dL_law_656 (by decide) (fun _ => ?_) (fun z => absurd E z)
  exact KK _ _ _ _ _ H locs (h.mono (by omega)) w
theorem lc_shift (S : CallFix p m c cL_law 4 s args wsL_law RL) (hX : va_X b L xs s s.heap) (hb : b < s.heap.size) (hl : lv_has ls 4 [(3, .int (nI i)), (2, .ref (a' 0)), (1, .ref (a 0)), (0, .ref b)]) (hi : i + 3 ≤ L) (hL : L ≤ 1536) (w : Wd D (kT cI cO) (lwA s) s.heap s (xW cI cO a sx fx (mW cI cO a' sm fm [])) H locs) (h : Rel B v sx fx sm fm) (hB : B + 60 < 1000000) (KK : LK p l e s m args below meth c Q ls D cI cO a a' (B + 48)) : W p l e room_1 s m args below meth c H locs 600000 7302250 Q (F0 m 661 ls []) := by
  have E := sim_shift h (by omega) (xs (i + 1))
  refine lv_aload_n S.1 S.2.1 dL_law_661 rfl (lv_at hl 2 rfl) ?_
  refine x_sc1 S hX hb w hl hi hL dL_law_662 dL_law_663 dL_law_664 dL_law_665 dL_law_666 ?_
  refine x_Vi (As := [.int (xs (i + 1))]) (rest := []) S w (goodV lk_RL_93 li_X4_shift ls_X4_shift ln_RX4 lc_X4_shift) hV_X4_shift (k_X4_shift l D cI cO a (mW cI cO a' sm fm []) sx fx (v 19) (xs (i + 1)) (h.n 19 rfl) (h.k19 (n := 0) hB (by decide))) rfl 0 4 rfl rfl xc_0 ⟨(Nat.le_of_ble_eq_true rfl), (Nat.le_of_ble_eq_true rfl)⟩ ⟨rfl, rfl⟩ hl.1 rfl (Nat.le_of_ble_eq_true rfl) ⟨(Nat.le_of_ble_eq_true rfl), (Nat.le_of_ble_eq_true rfl)⟩ dL_law_667 (fun H locs (w : Wd D (kT cI cO) (lwA s) s.heap s (xW cI cO a sx fx (mW cI cO a' sm fm [])) H locs) => ?_)
  have w := swX w
  refine lv_aload_n S.1 S.2.1 dL_law_670 rfl (lv_at hl 1 rfl) ?_
  refine x_sc1 S hX hb w hl hi hL dL_law_671 dL_law_672 dL_law_673 dL_law_674 dL_law_675 ?_
  refine x_Vi (As := [.int (xs (i + 1))]) (rest := [.int (o_X4_shift sx fx (xs (i + 1)))]) S w (goodV lk_RL_96 li_X5_shift ls_X5_shift ln_RX5 lc_X5_shift) hV_X5_shift (k_X5_shift l D cI cO a' (xW cI cO a sx fx []) sm fm (xs (i + 1))) rfl 0 5 rfl rfl mc_0 ⟨(Nat.le_of_ble_eq_true rfl), (Nat.le_of_ble_eq_true rfl)⟩ ⟨rfl, rfl⟩ hl.1 rfl (Nat.le_of_ble_eq_true rfl) ⟨(Nat.le_of_ble_eq_true rfl), (Nat.le_of_ble_eq_true rfl)⟩ dL_law_676 (fun H locs (w : Wd D (kT cI cO) (lwA s) s.heap s (mW cI cO a' sm fm (xW cI cO a sx fx [])) H locs) => ?_)
  have w := swM w
  refine lv_icmp_eq (tgt := 915) S.1 S.2.1 dL_law_679 (by decide) (fun _ => ?_) (fun z => absurd E z)
  exact KK _ _ _ _ _ H locs (h.mono (by omega)) w
theorem lc_worstSample (S : CallFix p m c cL_law 4 s args wsL_law RL) (hX : va_X b L xs s s.heap) (hb : b < s.heap.size) (hl : lv_has ls 4 [(3, .int (nI i)), (2, .ref (a' 0)), (1, .ref (a 0)), (0, .ref b)]) (hi : i + 3 ≤ L) (hL : L ≤ 1536) (w : Wd D (kT cI cO) (lwA s) s.heap s (xW cI cO a sx fx (mW cI cO a' sm fm [])) H locs) (h : Rel B v sx fx sm fm) (hB : B + 60 < 1000000) (KK : LK p l e s m args below meth c Q ls D cI cO a a' (B + 48)) : W p l e room_1 s m args below meth c H locs 600000 7302250 Q (F0 m 684 ls []) := by
  have E := sim_worstSample h (by omega) (xs (i + 1))
  refine lv_aload_n S.1 S.2.1 dL_law_684 rfl (lv_at hl 2 rfl) ?_
  refine x_sc1 S hX hb w hl hi hL dL_law_685 dL_law_686 dL_law_687 dL_law_688 dL_law_689 ?_
  refine x_Vi (As := [.int (xs (i + 1))]) (rest := []) S w (goodV lk_RL_97 li_X4_worstSample ls_X4_worstSample ln_RX4 lc_X4_worstSample) hV_X4_worstSample (k_X4_worstSample l D cI cO a (mW cI cO a' sm fm []) sx fx (v 0) (v 19) (xs (i + 1)) (h.n 0 rfl) h.1.1.1 h.1.1.2 (h.n 19 rfl) (h.k19 (n := 0) hB (by decide))) rfl 0 4 rfl rfl xc_0 ⟨(Nat.le_of_ble_eq_true rfl), (Nat.le_of_ble_eq_true rfl)⟩ ⟨rfl, rfl⟩ hl.1 rfl (Nat.le_of_ble_eq_true rfl) ⟨(Nat.le_of_ble_eq_true rfl), (Nat.le_of_ble_eq_true rfl)⟩ dL_law_690 (fun H locs (w : Wd D (kT cI cO) (lwA s) s.heap s (xW cI cO a sx fx (mW cI cO a' sm fm [])) H locs) => ?_)
  have w := swX w
  refine lv_aload_n S.1 S.2.1 dL_law_693 rfl (lv_at hl 1 rfl) ?_
  refine x_sc1 S hX hb w hl hi hL dL_law_694 dL_law_695 dL_law_696 dL_law_697 dL_law_698 ?_
  refine x_Vi (As := [.int (xs (i + 1))]) (rest := [.int (o_X4_worstSample sx fx (v 0) (xs (i + 1)))]) S w (goodV lk_RL_100 li_X5_worstSample ls_X5_worstSample ln_RX5 lc_X5_worstSample) hV_X5_worstSample (k_X5_worstSample l D cI cO a' (xW cI cO a sx fx []) sm fm (v 0) (xs (i + 1)) (h.n' 0 rfl (by decide)) h.1.1.1 h.1.1.2) rfl 0 5 rfl rfl mc_0 ⟨(Nat.le_of_ble_eq_true rfl), (Nat.le_of_ble_eq_true rfl)⟩ ⟨rfl, rfl⟩ hl.1 rfl (Nat.le_of_ble_eq_true rfl) ⟨(Nat.le_of_ble_eq_true rfl), (Nat.le_of_ble_eq_true rfl)⟩ dL_law_699 (fun H locs (w : Wd D (kT cI cO) (lwA s) s.heap s (mW cI cO a' sm fm (xW cI cO a sx fx [])) H locs) => ?_)
  have w := swM w
  refine lv_icmp_eq (tgt := 915) S.1 S.2.1 dL_law_702 (by decide) (fun _ => ?_) (fun z => absurd E z)
  exact KK _ _ _ _ _ H locs (h.mono (by omega)) w
theorem lc_energy (S : CallFix p m c cL_law 4 s args wsL_law RL) (hX : va_X b L xs s s.heap) (hb : b < s.heap.size) (hl : lv_has ls 4 [(3, .int (nI i)), (2, .ref (a' 0)), (1, .ref (a 0)), (0, .ref b)]) (hi : i + 3 ≤ L) (hL : L ≤ 1536) (w : Wd D (kT cI cO) (lwA s) s.heap s (xW cI cO a sx fx (mW cI cO a' sm fm [])) H locs) (h : Rel B v sx fx sm fm) (hB : B + 60 < 1000000) (KK : LK p l e s m args below meth c Q ls D cI cO a a' (B + 48)) : W p l e room_1 s m args below meth c H locs 600000 7302250 Q (F0 m 707 ls []) := by
  have E := sim_energy h (by omega) (xs (i + 1))
  refine lv_aload_n S.1 S.2.1 dL_law_707 rfl (lv_at hl 2 rfl) ?_
  refine x_sc1 S hX hb w hl hi hL dL_law_708 dL_law_709 dL_law_710 dL_law_711 dL_law_712 ?_
  refine x_Vl (As := [.int (xs (i + 1))]) (rest := []) S w (goodV lk_RL_101 li_X4_energy ls_X4_energy ln_RX4 lc_X4_energy) hV_X4_energy (k_X4_energy l D cI cO a (mW cI cO a' sm fm []) sx fx (v 0) (v 19) (xs (i + 1)) (h.n 0 rfl) h.1.1.1 h.1.1.2 (h.n 19 rfl) (h.k19 (n := 0) hB (by decide))) rfl 0 4 rfl rfl xc_0 ⟨(Nat.le_of_ble_eq_true rfl), (Nat.le_of_ble_eq_true rfl)⟩ ⟨rfl, rfl⟩ hl.1 rfl (Nat.le_of_ble_eq_true rfl) ⟨(Nat.le_of_ble_eq_true rfl), (Nat.le_of_ble_eq_true rfl)⟩ dL_law_713 (fun H locs (w : Wd D (kT cI cO) (lwA s) s.heap s (xW cI cO a sx fx (mW cI cO a' sm fm [])) H locs) => ?_)
  have w := swX w
  refine lv_aload_n S.1 S.2.1 dL_law_716 rfl (lv_at hl 1 rfl) ?_
  refine x_sc1 S hX hb w hl hi hL dL_law_717 dL_law_718 dL_law_719 dL_law_720 dL_law_721 ?_
  refine x_Vl (As := [.int (xs (i + 1))]) (rest := [.long (o_X4_energy sx fx (v 0) (xs (i + 1)))]) S w (goodV lk_RL_105 li_X5_energy ls_X5_energy ln_RX5 lc_X5_energy) hV_X5_energy (k_X5_energy l D cI cO a' (xW cI cO a sx fx []) sm fm (v 0) (xs (i + 1)) (h.n' 0 rfl (by decide)) h.1.1.1 h.1.1.2) rfl 0 5 rfl rfl mc_0 ⟨(Nat.le_of_ble_eq_true rfl), (Nat.le_of_ble_eq_true rfl)⟩ ⟨rfl, rfl⟩ hl.1 rfl (Nat.le_of_ble_eq_true rfl) ⟨(Nat.le_of_ble_eq_true rfl), (Nat.le_of_ble_eq_true rfl)⟩ dL_law_722 (fun H locs (w : Wd D (kT cI cO) (lwA s) s.heap s (mW cI cO a' sm fm (xW cI cO a sx fx [])) H locs) => ?_)
  have w := swM w
  refine x_lif_eq (tgt := 915) S.1 S.2.1 dL_law_725 dL_law_726 (by decide) (fun _ => ?_) (fun z => absurd E z)
  exact KK _ _ _ _ _ H locs (h.mono (by omega)) w
theorem lc_best (S : CallFix p m c cL_law 4 s args wsL_law RL) (hX : va_X b L xs s s.heap) (hb : b < s.heap.size) (hl : lv_has ls 4 [(3, .int (nI i)), (2, .ref (a' 0)), (1, .ref (a 0)), (0, .ref b)]) (hi : i + 3 ≤ L) (hL : L ≤ 1536) (w : Wd D (kT cI cO) (lwA s) s.heap s (xW cI cO a sx fx (mW cI cO a' sm fm [])) H locs) (h : Rel B v sx fx sm fm) (hB : B + 60 < 1000000) (KK : LK p l e s m args below meth c Q ls D cI cO a a' (B + 48)) : W p l e room_1 s m args below meth c H locs 600000 7302250 Q (F0 m 731 ls []) := by
  have E := sim_best h (xs (i + 1))
  refine lv_aload_n S.1 S.2.1 dL_law_731 rfl (lv_at hl 2 rfl) ?_
  refine x_sc1 S hX hb w hl hi hL dL_law_732 dL_law_733 dL_law_734 dL_law_735 dL_law_736 ?_
  refine x_Vi (As := [.int (xs (i + 1))]) (rest := []) S w (goodV lk_RL_106 li_X4_best ls_X4_best ln_RX4 lc_X4_best) hV_X4_best (k_X4_best l D cI cO a (mW cI cO a' sm fm []) sx fx (xs (i + 1))) rfl 0 4 rfl rfl xc_0 ⟨(Nat.le_of_ble_eq_true rfl), (Nat.le_of_ble_eq_true rfl)⟩ ⟨rfl, rfl⟩ hl.1 rfl (Nat.le_of_ble_eq_true rfl) ⟨(Nat.le_of_ble_eq_true rfl), (Nat.le_of_ble_eq_true rfl)⟩ dL_law_737 (fun H locs (w : Wd D (kT cI cO) (lwA s) s.heap s (xW cI cO a sx fx (mW cI cO a' sm fm [])) H locs) => ?_)
  have w := swX w
  refine lv_aload_n S.1 S.2.1 dL_law_740 rfl (lv_at hl 1 rfl) ?_
  refine x_sc1 S hX hb w hl hi hL dL_law_741 dL_law_742 dL_law_743 dL_law_744 dL_law_745 ?_
  refine x_Vi (As := [.int (xs (i + 1))]) (rest := [.int (o_X4_best sx fx (xs (i + 1)))]) S w (goodV lk_RL_109 li_X5_best ls_X5_best ln_RX5 lc_X5_best) hV_X5_best (k_X5_best l D cI cO a' (xW cI cO a sx fx []) sm fm (xs (i + 1))) rfl 0 5 rfl rfl mc_0 ⟨(Nat.le_of_ble_eq_true rfl), (Nat.le_of_ble_eq_true rfl)⟩ ⟨rfl, rfl⟩ hl.1 rfl (Nat.le_of_ble_eq_true rfl) ⟨(Nat.le_of_ble_eq_true rfl), (Nat.le_of_ble_eq_true rfl)⟩ dL_law_746 (fun H locs (w : Wd D (kT cI cO) (lwA s) s.heap s (mW cI cO a' sm fm (xW cI cO a sx fx [])) H locs) => ?_)
  have w := swM w
  refine lv_icmp_eq (tgt := 915) S.1 S.2.1 dL_law_749 (by decide) (fun _ => ?_) (fun z => absurd E z)
  exact KK _ _ _ _ _ H locs (h.mono (by omega)) w
theorem lc_bestInput (S : CallFix p m c cL_law 4 s args wsL_law RL) (hX : va_X b L xs s s.heap) (hb : b < s.heap.size) (hl : lv_has ls 4 [(3, .int (nI i)), (2, .ref (a' 0)), (1, .ref (a 0)), (0, .ref b)]) (hi : i + 3 ≤ L) (hL : L ≤ 1536) (w : Wd D (kT cI cO) (lwA s) s.heap s (xW cI cO a sx fx (mW cI cO a' sm fm [])) H locs) (h : Rel B v sx fx sm fm) (hB : B + 60 < 1000000) (KK : LK p l e s m args below meth c Q ls D cI cO a a' (B + 48)) : W p l e room_1 s m args below meth c H locs 600000 7302250 Q (F0 m 754 ls []) := by
  have E := sim_bestInput h (v 0) (v 0) (xs (i + 1))
  refine lv_aload_n S.1 S.2.1 dL_law_754 rfl (lv_at hl 2 rfl) ?_
  refine x_sc1 S hX hb w hl hi hL dL_law_755 dL_law_756 dL_law_757 dL_law_758 dL_law_759 ?_
  refine x_Vi (As := [.int (xs (i + 1))]) (rest := []) S w (goodV lk_RL_110 li_X4_bestInput ls_X4_bestInput ln_RX4 lc_X4_bestInput) hV_X4_bestInput (k_X4_bestInput l D cI cO a (mW cI cO a' sm fm []) sx fx (v 0) (xs (i + 1)) (h.n 0 rfl) h.1.1.1 h.1.1.2) rfl 0 4 rfl rfl xc_0 ⟨(Nat.le_of_ble_eq_true rfl), (Nat.le_of_ble_eq_true rfl)⟩ ⟨rfl, rfl⟩ hl.1 rfl (Nat.le_of_ble_eq_true rfl) ⟨(Nat.le_of_ble_eq_true rfl), (Nat.le_of_ble_eq_true rfl)⟩ dL_law_760 (fun H locs (w : Wd D (kT cI cO) (lwA s) s.heap s (xW cI cO a sx fx (mW cI cO a' sm fm [])) H locs) => ?_)
  have w := swX w
  refine lv_aload_n S.1 S.2.1 dL_law_763 rfl (lv_at hl 1 rfl) ?_
  refine x_sc1 S hX hb w hl hi hL dL_law_764 dL_law_765 dL_law_766 dL_law_767 dL_law_768 ?_
  refine x_Vi (As := [.int (xs (i + 1))]) (rest := [.int (o_X4_bestInput sx fx (v 0) (xs (i + 1)))]) S w (goodV lk_RL_113 li_X5_bestInput ls_X5_bestInput ln_RX5 lc_X5_bestInput) hV_X5_bestInput (k_X5_bestInput l D cI cO a' (xW cI cO a sx fx []) sm fm (v 0) (xs (i + 1)) (h.n' 0 rfl (by decide)) h.1.1.1 h.1.1.2) rfl 0 5 rfl rfl mc_0 ⟨(Nat.le_of_ble_eq_true rfl), (Nat.le_of_ble_eq_true rfl)⟩ ⟨rfl, rfl⟩ hl.1 rfl (Nat.le_of_ble_eq_true rfl) ⟨(Nat.le_of_ble_eq_true rfl), (Nat.le_of_ble_eq_true rfl)⟩ dL_law_769 (fun H locs (w : Wd D (kT cI cO) (lwA s) s.heap s (mW cI cO a' sm fm (xW cI cO a sx fx [])) H locs) => ?_)
  have w := swM w
  refine lv_icmp_eq (tgt := 915) S.1 S.2.1 dL_law_772 (by decide) (fun _ => ?_) (fun z => absurd E z)
  exact KK _ _ _ _ _ H locs (h.mono (by omega)) w
theorem lc_state (S : CallFix p m c cL_law 4 s args wsL_law RL) (hX : va_X b L xs s s.heap) (hb : b < s.heap.size) (hl : lv_has ls 4 [(3, .int (nI i)), (2, .ref (a' 0)), (1, .ref (a 0)), (0, .ref b)]) (hi : i + 3 ≤ L) (hL : L ≤ 1536) (w : Wd D (kT cI cO) (lwA s) s.heap s (xW cI cO a sx fx (mW cI cO a' sm fm [])) H locs) (h : Rel B v sx fx sm fm) (hB : B + 60 < 1000000) (KK : LK p l e s m args below meth c Q ls D cI cO a a' (B + 48)) : W p l e room_1 s m args below meth c H locs 600000 7302250 Q (F0 m 777 ls []) := by
  have E := sim_state h (by omega) (xs (i + 1))
  refine lv_aload_n S.1 S.2.1 dL_law_777 rfl (lv_at hl 2 rfl) ?_
  refine x_sc1 S hX hb w hl hi hL dL_law_778 dL_law_779 dL_law_780 dL_law_781 dL_law_782 ?_
  refine x_Vi (As := [.int (xs (i + 1))]) (rest := []) S w (goodV lk_RL_114 li_X4_state ls_X4_state ln_RX4 lc_X4_state) hV_X4_state (k_X4_state l D cI cO a (mW cI cO a' sm fm []) sx fx (v 0) (v 19) (v 9) (xs (i + 1)) (h.n 0 rfl) h.1.1.1 h.1.1.2 (h.n 19 rfl) (h.k19 (n := 0) hB (by decide)) h.b9.1 h.b9.2 (h.n 9 rfl)) rfl 0 4 rfl rfl xc_0 ⟨(Nat.le_of_ble_eq_true rfl), (Nat.le_of_ble_eq_true rfl)⟩ ⟨rfl, rfl⟩ hl.1 rfl (Nat.le_of_ble_eq_true rfl) ⟨(Nat.le_of_ble_eq_true rfl), (Nat.le_of_ble_eq_true rfl)⟩ dL_law_783 (fun H locs (w : Wd D (kT cI cO) (lwA s) s.heap s (xW cI cO a sx fx (mW cI cO a' sm fm [])) H locs) => ?_)
  have w := swX w
  refine lv_aload_n S.1 S.2.1 dL_law_786 rfl (lv_at hl 1 rfl) ?_
  refine x_sc1 S hX hb w hl hi hL dL_law_787 dL_law_788 dL_law_789 dL_law_790 dL_law_791 ?_
  refine x_Vi (As := [.int (xs (i + 1))]) (rest := [.int (o_X4_state sx fx (v 19) (v 9) (xs (i + 1)))]) S w (goodV lk_RL_117 li_X5_state ls_X5_state ln_RX5 lc_X5_state) hV_X5_state (k_X5_state l D cI cO a' (xW cI cO a sx fx []) sm fm (v 0) (v 19) (v 9) (xs (i + 1)) (h.n' 0 rfl (by decide)) h.1.1.1 h.1.1.2 (h.n' 19 rfl (by decide)) (h.k19 (n := 0) hB (by decide)) h.b9.1 h.b9.2 (h.n' 9 rfl (by decide))) rfl 0 5 rfl rfl mc_0 ⟨(Nat.le_of_ble_eq_true rfl), (Nat.le_of_ble_eq_true rfl)⟩ ⟨rfl, rfl⟩ hl.1 rfl (Nat.le_of_ble_eq_true rfl) ⟨(Nat.le_of_ble_eq_true rfl), (Nat.le_of_ble_eq_true rfl)⟩ dL_law_792 (fun H locs (w : Wd D (kT cI cO) (lwA s) s.heap s (mW cI cO a' sm fm (xW cI cO a sx fx [])) H locs) => ?_)
  have w := swM w
  refine lv_icmp_eq (tgt := 915) S.1 S.2.1 dL_law_795 (by decide) (fun _ => ?_) (fun z => absurd E z)
  exact KK _ _ _ _ _ H locs (h.mono (by omega)) w
theorem lc_convergedCount (S : CallFix p m c cL_law 4 s args wsL_law RL) (hX : va_X b L xs s s.heap) (hb : b < s.heap.size) (hl : lv_has ls 4 [(3, .int (nI i)), (2, .ref (a' 0)), (1, .ref (a 0)), (0, .ref b)]) (hi : i + 3 ≤ L) (hL : L ≤ 1536) (w : Wd D (kT cI cO) (lwA s) s.heap s (xW cI cO a sx fx (mW cI cO a' sm fm [])) H locs) (h : Rel B v sx fx sm fm) (hB : B + 60 < 1000000) (KK : LK p l e s m args below meth c Q ls D cI cO a a' (B + 48)) : W p l e room_1 s m args below meth c H locs 600000 7302250 Q (F0 m 800 ls []) := by
  have E := sim_convergedCount h (by omega)
  refine lv_aload_n S.1 S.2.1 dL_law_800 rfl (lv_at hl 2 rfl) ?_
  refine x_Vi (As := []) (rest := []) S w (goodV lk_RL_118 li_X4_convergedCount ls_X4_convergedCount ln_RX4 lc_X4_convergedCount) hV_X4_convergedCount (k_X4_convergedCount l D cI cO a (mW cI cO a' sm fm []) sx fx (v 0) (v 19) (v 9) (h.n 0 rfl) h.1.1.1 h.1.1.2 (h.n 19 rfl) (h.k19 (n := 0) hB (by decide)) h.b9.1 h.b9.2 (h.n 9 rfl)) rfl 0 4 rfl rfl xc_0 ⟨(Nat.le_of_ble_eq_true rfl), (Nat.le_of_ble_eq_true rfl)⟩ ⟨rfl, rfl⟩ hl.1 rfl (Nat.le_of_ble_eq_true rfl) ⟨(Nat.le_of_ble_eq_true rfl), (Nat.le_of_ble_eq_true rfl)⟩ dL_law_801 (fun H locs (w : Wd D (kT cI cO) (lwA s) s.heap s (xW cI cO a sx fx (mW cI cO a' sm fm [])) H locs) => ?_)
  have w := swX w
  refine lv_aload_n S.1 S.2.1 dL_law_804 rfl (lv_at hl 1 rfl) ?_
  refine x_Vi (As := []) (rest := [.int (o_X4_convergedCount sx fx (v 0) (v 19) (v 9))]) S w (goodV lk_RL_121 li_X5_convergedCount ls_X5_convergedCount ln_RX5 lc_X5_convergedCount) hV_X5_convergedCount (k_X5_convergedCount l D cI cO a' (xW cI cO a sx fx []) sm fm (v 0) (v 19) (v 9) (h.n' 0 rfl (by decide)) h.1.1.1 h.1.1.2 (h.n' 19 rfl (by decide)) (h.k19 (n := 0) hB (by decide)) h.b9.1 h.b9.2 (h.n' 9 rfl (by decide))) rfl 0 5 rfl rfl mc_0 ⟨(Nat.le_of_ble_eq_true rfl), (Nat.le_of_ble_eq_true rfl)⟩ ⟨rfl, rfl⟩ hl.1 rfl (Nat.le_of_ble_eq_true rfl) ⟨(Nat.le_of_ble_eq_true rfl), (Nat.le_of_ble_eq_true rfl)⟩ dL_law_805 (fun H locs (w : Wd D (kT cI cO) (lwA s) s.heap s (mW cI cO a' sm fm (xW cI cO a sx fx [])) H locs) => ?_)
  have w := swM w
  refine lv_icmp_eq (tgt := 915) S.1 S.2.1 dL_law_808 (by decide) (fun _ => ?_) (fun z => absurd E z)
  exact KK _ _ _ _ _ H locs (h.mono (by omega)) w
theorem lc_setPlant (S : CallFix p m c cL_law 4 s args wsL_law RL) (hX : va_X b L xs s s.heap) (hb : b < s.heap.size) (hl : lv_has ls 4 [(3, .int (nI i)), (2, .ref (a' 0)), (1, .ref (a 0)), (0, .ref b)]) (hi : i + 3 ≤ L) (hL : L ≤ 1536) (w : Wd D (kT cI cO) (lwA s) s.heap s (xW cI cO a sx fx (mW cI cO a' sm fm [])) H locs) (h : Rel B v sx fx sm fm) (hB : B + 60 < 1000000) (KK : LK p l e s m args below meth c Q ls D cI cO a a' (B + 48)) : W p l e room_1 s m args below meth c H locs 600000 7302250 Q (F0 m 813 ls []) := by
  obtain ⟨E, RR⟩ := sim_setPlant h (xs (i + 1)) (xs (i + 2))
  refine lv_aload_n S.1 S.2.1 dL_law_813 rfl (lv_at hl 2 rfl) ?_
  refine x_sc1 S hX hb w hl hi hL dL_law_814 dL_law_815 dL_law_816 dL_law_817 dL_law_818 ?_
  refine x_sc2 S hX hb w hl hi hL dL_law_819 dL_law_820 dL_law_821 dL_law_822 dL_law_823 ?_
  refine x_Vi (As := [.int (xs (i + 1)), .int (xs (i + 2))]) (rest := []) S w (goodV lk_RL_122 li_X4_setPlant ls_X4_setPlant ln_RX4 lc_X4_setPlant) hV_X4_setPlant (k_X4_setPlant l D cI cO a (mW cI cO a' sm fm []) sx fx (xs (i + 1)) (xs (i + 2))) rfl 0 4 rfl rfl xc_0 ⟨(Nat.le_of_ble_eq_true rfl), (Nat.le_of_ble_eq_true rfl)⟩ ⟨rfl, rfl⟩ hl.1 rfl (Nat.le_of_ble_eq_true rfl) ⟨(Nat.le_of_ble_eq_true rfl), (Nat.le_of_ble_eq_true rfl)⟩ dL_law_824 (fun H locs (w : Wd D (kT cI cO) (lwA s) s.heap s (xW cI cO a sx (o_X4_setPlant sx fx (xs (i + 1)) (xs (i + 2))).2 (mW cI cO a' sm fm [])) H locs) => ?_)
  have w := swX w
  refine lv_aload_n S.1 S.2.1 dL_law_827 rfl (lv_at hl 1 rfl) ?_
  refine x_sc1 S hX hb w hl hi hL dL_law_828 dL_law_829 dL_law_830 dL_law_831 dL_law_832 ?_
  refine x_sc2 S hX hb w hl hi hL dL_law_833 dL_law_834 dL_law_835 dL_law_836 dL_law_837 ?_
  refine x_Vi (As := [.int (xs (i + 1)), .int (xs (i + 2))]) (rest := [.int (o_X4_setPlant sx fx (xs (i + 1)) (xs (i + 2))).1]) S w (goodV lk_RL_125 li_X5_setPlant ls_X5_setPlant ln_RX5 lc_X5_setPlant) hV_X5_setPlant (k_X5_setPlant l D cI cO a' (xW cI cO a sx (o_X4_setPlant sx fx (xs (i + 1)) (xs (i + 2))).2 []) sm fm (xs (i + 1)) (xs (i + 2))) rfl 0 5 rfl rfl mc_0 ⟨(Nat.le_of_ble_eq_true rfl), (Nat.le_of_ble_eq_true rfl)⟩ ⟨rfl, rfl⟩ hl.1 rfl (Nat.le_of_ble_eq_true rfl) ⟨(Nat.le_of_ble_eq_true rfl), (Nat.le_of_ble_eq_true rfl)⟩ dL_law_838 (fun H locs (w : Wd D (kT cI cO) (lwA s) s.heap s (mW cI cO a' sm (o_X5_setPlant sm fm (xs (i + 1)) (xs (i + 2))).2 (xW cI cO a sx (o_X4_setPlant sx fx (xs (i + 1)) (xs (i + 2))).2 [])) H locs) => ?_)
  have w := swM w
  refine lv_icmp_eq (tgt := 915) S.1 S.2.1 dL_law_841 (by decide) (fun _ => ?_) (fun z => absurd E z)
  exact KK _ _ _ _ _ H locs (RR.mono (by omega)) w
theorem lc_setDisturbance (S : CallFix p m c cL_law 4 s args wsL_law RL) (hX : va_X b L xs s s.heap) (hb : b < s.heap.size) (hl : lv_has ls 4 [(3, .int (nI i)), (2, .ref (a' 0)), (1, .ref (a 0)), (0, .ref b)]) (hi : i + 3 ≤ L) (hL : L ≤ 1536) (w : Wd D (kT cI cO) (lwA s) s.heap s (xW cI cO a sx fx (mW cI cO a' sm fm [])) H locs) (h : Rel B v sx fx sm fm) (hB : B + 60 < 1000000) (KK : LK p l e s m args below meth c Q ls D cI cO a a' (B + 48)) : W p l e room_1 s m args below meth c H locs 600000 7302250 Q (F0 m 846 ls []) := by
  obtain ⟨E, v2, RR⟩ := sim_setDisturbance h (xs (i + 1)) (xs (i + 2))
  refine lv_aload_n S.1 S.2.1 dL_law_846 rfl (lv_at hl 2 rfl) ?_
  refine x_sc1 S hX hb w hl hi hL dL_law_847 dL_law_848 dL_law_849 dL_law_850 dL_law_851 ?_
  refine x_sc2 S hX hb w hl hi hL dL_law_852 dL_law_853 dL_law_854 dL_law_855 dL_law_856 ?_
  refine x_Vi (As := [.int (xs (i + 1)), .int (xs (i + 2))]) (rest := []) S w (goodV lk_RL_126 li_X4_setDisturbance ls_X4_setDisturbance ln_RX4 lc_X4_setDisturbance) hV_X4_setDisturbance (k_X4_setDisturbance l D cI cO a (mW cI cO a' sm fm []) sx fx (xs (i + 1)) (xs (i + 2))) rfl 0 4 rfl rfl xc_0 ⟨(Nat.le_of_ble_eq_true rfl), (Nat.le_of_ble_eq_true rfl)⟩ ⟨rfl, rfl⟩ hl.1 rfl (Nat.le_of_ble_eq_true rfl) ⟨(Nat.le_of_ble_eq_true rfl), (Nat.le_of_ble_eq_true rfl)⟩ dL_law_857 (fun H locs (w : Wd D (kT cI cO) (lwA s) s.heap s (xW cI cO a (o_X4_setDisturbance sx fx (xs (i + 1)) (xs (i + 2))).2 fx (mW cI cO a' sm fm [])) H locs) => ?_)
  have w := swX w
  refine lv_aload_n S.1 S.2.1 dL_law_860 rfl (lv_at hl 1 rfl) ?_
  refine x_sc1 S hX hb w hl hi hL dL_law_861 dL_law_862 dL_law_863 dL_law_864 dL_law_865 ?_
  refine x_sc2 S hX hb w hl hi hL dL_law_866 dL_law_867 dL_law_868 dL_law_869 dL_law_870 ?_
  refine x_Vi (As := [.int (xs (i + 1)), .int (xs (i + 2))]) (rest := [.int (o_X4_setDisturbance sx fx (xs (i + 1)) (xs (i + 2))).1]) S w (goodV lk_RL_129 li_X5_setDisturbance ls_X5_setDisturbance ln_RX5 lc_X5_setDisturbance) hV_X5_setDisturbance (k_X5_setDisturbance l D cI cO a' (xW cI cO a (o_X4_setDisturbance sx fx (xs (i + 1)) (xs (i + 2))).2 fx []) sm fm (xs (i + 1)) (xs (i + 2))) rfl 0 5 rfl rfl mc_0 ⟨(Nat.le_of_ble_eq_true rfl), (Nat.le_of_ble_eq_true rfl)⟩ ⟨rfl, rfl⟩ hl.1 rfl (Nat.le_of_ble_eq_true rfl) ⟨(Nat.le_of_ble_eq_true rfl), (Nat.le_of_ble_eq_true rfl)⟩ dL_law_871 (fun H locs (w : Wd D (kT cI cO) (lwA s) s.heap s (mW cI cO a' (o_X5_setDisturbance sm fm (xs (i + 1)) (xs (i + 2))).2 fm (xW cI cO a (o_X4_setDisturbance sx fx (xs (i + 1)) (xs (i + 2))).2 fx [])) H locs) => ?_)
  have w := swM w
  refine lv_icmp_eq (tgt := 915) S.1 S.2.1 dL_law_874 (by decide) (fun _ => ?_) (fun z => absurd E z)
  exact KK _ _ _ _ _ H locs (RR.mono (by omega)) w
theorem lc_simulate (S : CallFix p m c cL_law 4 s args wsL_law RL) (hX : va_X b L xs s s.heap) (hb : b < s.heap.size) (hl : lv_has ls 4 [(3, .int (nI i)), (2, .ref (a' 0)), (1, .ref (a 0)), (0, .ref b)]) (hi : i + 3 ≤ L) (hL : L ≤ 1536) (w : Wd D (kT cI cO) (lwA s) s.heap s (xW cI cO a sx fx (mW cI cO a' sm fm [])) H locs) (h : Rel B v sx fx sm fm) (hB : B + 60 < 1000000) (KK : LK p l e s m args below meth c Q ls D cI cO a a' (B + 48)) : W p l e room_1 s m args below meth c H locs 600000 7302250 Q (F0 m 879 ls []) := by
  obtain ⟨E, v2, RR⟩ := sim_simulate (d := v 2) (b := v 6) (mm := v 4) (G := v 7) h (by omega) (xs (i + 1))
  refine lv_aload_n S.1 S.2.1 dL_law_879 rfl (lv_at hl 2 rfl) ?_
  refine x_sc1 S hX hb w hl hi hL dL_law_880 dL_law_881 dL_law_882 dL_law_883 dL_law_884 ?_
  refine x_Vi (As := [.int (xs (i + 1))]) (rest := []) S w (goodV lk_RL_130 li_X4_simulate ls_X4_simulate ln_RX4 lc_X4_simulate) hV_X4_simulate (k_X4_simulate l D cI cO a (mW cI cO a' sm fm []) sx fx (v 0) (v 19) (v 2) (v 6) (v 4) (v 7) (xs (i + 1)) (h.n 0 rfl) h.1.1.1 h.1.1.2 (h.n 19 rfl) (h.k19 (n := 21) hB (by decide)) (h.n 2 rfl) h.b2 (h.n 6 rfl) h.b6.1 h.b6.2 (h.n 4 rfl) h.b4 (h.n 7 rfl) h.b7 (am_ne (h.n 17 rfl) h.b17)) rfl 0 4 rfl rfl xc_0 ⟨(Nat.le_of_ble_eq_true rfl), (Nat.le_of_ble_eq_true rfl)⟩ ⟨rfl, rfl⟩ hl.1 rfl (Nat.le_of_ble_eq_true rfl) ⟨(Nat.le_of_ble_eq_true rfl), (Nat.le_of_ble_eq_true rfl)⟩ dL_law_885 (fun H locs (w : Wd D (kT cI cO) (lwA s) s.heap s (xW cI cO a (o_X4_simulate sx fx (v 0) (v 19) (v 2) (v 6) (v 4) (v 7) (xs (i + 1))).2.1 (o_X4_simulate sx fx (v 0) (v 19) (v 2) (v 6) (v 4) (v 7) (xs (i + 1))).2.2 (mW cI cO a' sm fm [])) H locs) => ?_)
  have w := swX w
  refine lv_aload_n S.1 S.2.1 dL_law_888 rfl (lv_at hl 1 rfl) ?_
  refine x_sc1 S hX hb w hl hi hL dL_law_889 dL_law_890 dL_law_891 dL_law_892 dL_law_893 ?_
  refine x_Vi (As := [.int (xs (i + 1))]) (rest := [.int (o_X4_simulate sx fx (v 0) (v 19) (v 2) (v 6) (v 4) (v 7) (xs (i + 1))).1]) S w (goodV lk_RL_133 li_X5_simulate ls_X5_simulate ln_RX5 lc_X5_simulate) hV_X5_simulate (k_X5_simulate l D cI cO a' (xW cI cO a (o_X4_simulate sx fx (v 0) (v 19) (v 2) (v 6) (v 4) (v 7) (xs (i + 1))).2.1 (o_X4_simulate sx fx (v 0) (v 19) (v 2) (v 6) (v 4) (v 7) (xs (i + 1))).2.2 []) sm fm (v 0) (v 19) (v 2) (v 6) (v 4) (v 7) (v 3) (v 5) (v 17) (xs (i + 1)) (h.n' 0 rfl (by decide)) h.1.1.1 h.1.1.2 (h.n' 19 rfl (by decide)) (h.k19 (n := 21) hB (by decide)) (h.n' 2 rfl (by decide)) h.b2 (h.n' 6 rfl (by decide)) h.b6.1 h.b6.2 (h.n' 4 rfl (by decide)) h.b4 (h.n' 7 rfl (by decide)) h.b7 (h.n' 3 rfl (by decide)) h.b3 (h.n' 5 rfl (by decide)) h.b5.1 h.b5.2 (h.n' 17 rfl (by decide)) h.b17) rfl 0 5 rfl rfl mc_0 ⟨(Nat.le_of_ble_eq_true rfl), (Nat.le_of_ble_eq_true rfl)⟩ ⟨rfl, rfl⟩ hl.1 rfl (Nat.le_of_ble_eq_true rfl) ⟨(Nat.le_of_ble_eq_true rfl), (Nat.le_of_ble_eq_true rfl)⟩ dL_law_894 (fun H locs (w : Wd D (kT cI cO) (lwA s) s.heap s (mW cI cO a' (o_X5_simulate sm fm (v 0) (v 19) (v 2) (v 6) (v 4) (v 7) (xs (i + 1))).2.1 (o_X5_simulate sm fm (v 0) (v 19) (v 2) (v 6) (v 4) (v 7) (xs (i + 1))).2.2 (xW cI cO a (o_X4_simulate sx fx (v 0) (v 19) (v 2) (v 6) (v 4) (v 7) (xs (i + 1))).2.1 (o_X4_simulate sx fx (v 0) (v 19) (v 2) (v 6) (v 4) (v 7) (xs (i + 1))).2.2 [])) H locs) => ?_)
  have w := swM w
  refine lv_icmp_eq (tgt := 915) S.1 S.2.1 dL_law_897 (by decide) (fun _ => ?_) (fun z => absurd E z)
  exact KK _ _ _ _ _ H locs (RR.mono (by omega)) w
theorem lc_suits (S : CallFix p m c cL_law 4 s args wsL_law RL) (hX : va_X b L xs s s.heap) (hb : b < s.heap.size) (hl : lv_has ls 4 [(3, .int (nI i)), (2, .ref (a' 0)), (1, .ref (a 0)), (0, .ref b)]) (hi : i + 3 ≤ L) (hL : L ≤ 1536) (w : Wd D (kT cI cO) (lwA s) s.heap s (xW cI cO a sx fx (mW cI cO a' sm fm [])) H locs) (h : Rel B v sx fx sm fm) (hB : B + 60 < 1000000) (KK : LK p l e s m args below meth c Q ls D cI cO a a' (B + 48)) : W p l e room_1 s m args below meth c H locs 600000 7302250 Q (F0 m 902 ls []) := by
  have E := sim_suits h
  refine lv_aload_n S.1 S.2.1 dL_law_902 rfl (lv_at hl 2 rfl) ?_
  refine x_Vi (As := []) (rest := []) S w (goodV lk_RL_134 li_X4_suits ls_X4_suits ln_RX4 lc_X4_suits) hV_X4_suits (k_X4_suits l D cI cO a (mW cI cO a' sm fm []) sx fx (v 2) (h.n 2 rfl) h.b2) rfl 0 4 rfl rfl xc_0 ⟨(Nat.le_of_ble_eq_true rfl), (Nat.le_of_ble_eq_true rfl)⟩ ⟨rfl, rfl⟩ hl.1 rfl (Nat.le_of_ble_eq_true rfl) ⟨(Nat.le_of_ble_eq_true rfl), (Nat.le_of_ble_eq_true rfl)⟩ dL_law_903 (fun H locs (w : Wd D (kT cI cO) (lwA s) s.heap s (xW cI cO a sx fx (mW cI cO a' sm fm [])) H locs) => ?_)
  have w := swX w
  refine lv_aload_n S.1 S.2.1 dL_law_906 rfl (lv_at hl 1 rfl) ?_
  refine x_Vi (As := []) (rest := [.int (o_X4_suits sx fx (v 2))]) S w (goodV lk_RL_137 li_X5_suits ls_X5_suits ln_RX5 lc_X5_suits) hV_X5_suits (k_X5_suits l D cI cO a' (xW cI cO a sx fx []) sm fm (v 2) (h.n' 2 rfl (by decide)) h.b2) rfl 0 5 rfl rfl mc_0 ⟨(Nat.le_of_ble_eq_true rfl), (Nat.le_of_ble_eq_true rfl)⟩ ⟨rfl, rfl⟩ hl.1 rfl (Nat.le_of_ble_eq_true rfl) ⟨(Nat.le_of_ble_eq_true rfl), (Nat.le_of_ble_eq_true rfl)⟩ dL_law_907 (fun H locs (w : Wd D (kT cI cO) (lwA s) s.heap s (mW cI cO a' sm fm (xW cI cO a sx fx [])) H locs) => ?_)
  have w := swM w
  refine lv_icmp_eq (tgt := 915) S.1 S.2.1 dL_law_910 (by decide) (fun _ => ?_) (fun z => absurd E z)
  exact KK _ _ _ _ _ H locs (h.mono (by omega)) w
end LAWC
