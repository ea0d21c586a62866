set_option maxHeartbeats 4000000 in
set_option maxRecDepth 100000 in
theorem cs_apply {p : Program} {l : Launch} {e : Env} {s : State} {m : MethodId} {below : List Frame} {meth : Method} {c : Code} {b L : Nat} {xs : Nat → Int32} {D : va_G} {ca cb : Nat → ClassId} {ad bd : Nat → Nat} {o : Nat} {cJ : ClassId} {Q : State → Prop} (I : JS → JS → Prop) (hl9 : l.stackTraces = false) (S : CallFix p m c code 7 s #[Value.ref b] jall RZ) (hN : xN (gA s) s) (hNc : va_Nc (jE 2) (jE 1) s) (hX : va_X b L xs s s.heap) (hbl : b < s.heap.size) (hL : L ≤ 2560) (k : Nat) (hk : 5 * k + 5 ≤ L)  (ho : jo_apply I) (cont : ∀ (σ τ : JS) (g : Nat → Int64) (ls : Array Slot) (H : Heap) (locs : List Loc) (cells slots : Nat), I σ τ → lv_has ls 7 [(0, .ref b), (1, .ref (ad 0)), (2, .ref (bd 0)), (3, .ref o), (4, .int (nI (5 * k)))] → jH D (gT ca cb cJ) (gC ca ad cb bd o cJ σ τ g) (gA s) s.heap H locs s → cells ≤ 101 + k → slots ≤ 3006 + 6 * k → W p l e room_1 s m #[Value.ref b] below meth c H locs cells slots Q (F0 m 1120 ls [])) (σ τ : JS) (g : Nat → Int64) (ls : Array Slot) (H : Heap) (locs : List Loc) (hI : I σ τ) (hl : lv_has ls 7 [(0, .ref b), (1, .ref (ad 0)), (2, .ref (bd 0)), (3, .ref o), (4, .int (nI (5 * k)))]) (hw : jH D (gT ca cb cJ) (gC ca ad cb bd o cJ σ τ g) (gA s) s.heap H locs s) : W p l e room_1 s m #[Value.ref b] below meth c H locs (100 + k) (3000 + 6 * k) Q (F0 m 564 ls []) := by
  have hx := S.1
  have hb := S.2.1
  obtain ⟨ko, vo, σo, w, τo, hfx, hfm, hth, hvw, hI2⟩ := ho σ τ (xs (nI (5 * k) + 1).toNatClampNeg) (xs (nI (5 * k) + 2).toNatClampNeg) hI
  refine lv_aload_n (pc := 564) hx hb dZ_law_564 rfl (lv_at hl 1 rfl) ?_
  refine lv_aload_n (pc := 565) hx hb dZ_law_565 rfl (lv_at hl 0 rfl) ?_
  refine lv_iload (pc := 566) hx hb dZ_law_566 (lv_at hl 4 rfl) ?_
  refine lv_iconst (pc := 568) (v := (1 : Int32)) hx hb dZ_law_568 (by decide) ?_
  refine lv_iadd (pc := 569) hx hb dZ_law_569 ?_
  refine va_sld (pc := 570) hx hb hX hbl (Nat.not_le.mpr hbl) hw.2.2.1 (lw_in 1 (by decide) hk hL) dZ_law_570 ?_
  refine lv_aload_n (pc := 571) hx hb dZ_law_571 rfl (lv_at hl 0 rfl) ?_
  refine lv_iload (pc := 572) hx hb dZ_law_572 (lv_at hl 4 rfl) ?_
  refine lv_iconst (pc := 574) (v := (2 : Int32)) hx hb dZ_law_574 (by decide) ?_
  refine lv_iadd (pc := 575) hx hb dZ_law_575 ?_
  refine va_sld (pc := 576) hx hb hX hbl (Nat.not_le.mpr hbl) hw.2.2.1 (lw_in 2 (by decide) hk hL) dZ_law_576 ?_
  refine lv_aload_n (pc := 577) hx hb dZ_law_577 rfl (lv_at hl 3 rfl) ?_
  refine j_callZ (pc := 578) (v := zR ko) (σo := σo) (go := zG ko vo g) (gH_lf hw) (fun _ h => h) (j_runSW (n := 4) (As := [.ref (ad 0), .int (xs (nI (5 * k) + 1).toNatClampNeg), .int (xs (nI (5 * k) + 2).toNatClampNeg), .ref o]) (rest := []) (bytes := cZ_apply) (maxL := 5) (ret := some .int) (hh := [(0, 10, 13, 13), (0, 10, 17, 15)]) S (kZ_apply l hl9 D ca ad o cJ _ σ g (xs (nI (5 * k) + 1).toNatClampNeg) (xs (nI (5 * k) + 2).toNatClampNeg) ko vo σo hfx) rfl rfl (Nat.le_of_ble_eq_true rfl) (Nat.le_of_ble_eq_true rfl) (jgW k_477) List.mem_cons_self (S.2.2.2.2 _ k_0) (S.2.2.2.2 _ k_476) (S.2.2.2.2 _ k_475) (by decide +kernel) (j_preS (N := fun U => xN (va_A (lC ca ad o cJ σ g) H.size) U ∧ va_Nc (jE 2) (jE 1) U) (gH_l hw) (fun U g1 mk a1 h => ⟨xN_b U g1 mk a1 h.1, h.2.moved (Vm.Alike.refl U.vm)⟩) (fun U hU hW => ⟨xN_to hN (gH_l hw) (fun _ h => h) U hU hW, hNc.moved hW.alike⟩)) rfl hl.1 (Nat.le_of_ble_eq_true rfl) dZ_law_578 ⟨by show 100 + k + 1 ≤ 601024; omega, by show 3000 + 6 * k + 6 ≤ 7293034; omega⟩) (fun H locs hw => ?_)
  have hw := gH_lb hw
  refine lv_istore (pc := 581) (lv' := [(5, .int (zR ko)), (0, .ref b), (1, .ref (ad 0)), (2, .ref (bd 0)), (3, .ref o), (4, .int (nI (5 * k)))]) hx hb dZ_law_581 hl (by decide) rfl (fun ls hl => ?_)
  refine lv_aload_n (pc := 583) hx hb dZ_law_583 rfl (lv_at hl 3 rfl) ?_
  refine lv_aload_n (pc := 584) hx hb dZ_law_584 rfl (lv_at hl 1 rfl) ?_
  refine lv_iload (pc := 585) hx hb dZ_law_585 (lv_at hl 5 rfl) ?_
  refine lv_iconst (pc := 587) (v := (1 : Int32)) hx hb dZ_law_587 (by decide) ?_
  refine lv_iadd (pc := 588) hx hb dZ_law_588 ?_
  refine va_sld (pc := 589) hx hb hX hbl (Nat.not_le.mpr hbl) hw.2.2.1 (lw_in 1 (by decide) hk hL) dZ_law_589 ?_
  refine lv_aload_n (pc := 590) hx hb dZ_law_590 rfl (lv_at hl 1 rfl) ?_
  refine lv_iload (pc := 591) hx hb dZ_law_591 (lv_at hl 5 rfl) ?_
  refine lv_iconst (pc := 593) (v := (2 : Int32)) hx hb dZ_law_593 (by decide) ?_
  refine lv_iadd (pc := 594) hx hb dZ_law_594 ?_
  refine va_sld (pc := 595) hx hb hX hbl (Nat.not_le.mpr hbl) hw.2.2.1 (lw_in 2 (by decide) hk hL) dZ_law_595 ?_
  refine j_calliF (pc := 596) (C := mC cb bd) (σ' := τo) (v := w) (gH_mf hw) (fun _ h => h) (va_runV (As := [.int (xs (nI (5 * k) + 1).toNatClampNeg), .int (xs (nI (5 * k) + 2).toNatClampNeg)]) (rest := []) S (kM_apply l D cb bd _ τ (xs (nI (5 * k) + 1).toNatClampNeg) (xs (nI (5 * k) + 2).toNatClampNeg) (w, τo) hfm) (cwV 2 S.2.2.2.2 (jgV k_768 k_769 k_770 k_7 k_771) rfl rfl rfl (by decide +kernel) ⟨Nat.le_of_ble_eq_true rfl, Nat.le_of_ble_eq_true rfl⟩) (j_preV (As := [.int (xs (nI (5 * k) + 1).toNatClampNeg), .int (xs (nI (5 * k) + 2).toNatClampNeg)]) (gH_m hw) mN_b (mN_to trivial (gH_m hw) (fun _ h => h)) rfl mg_0) rfl rfl hl.1 rfl (lv_room (Nat.le_of_ble_eq_true rfl)) dZ_law_596 ⟨by show 100 + k + 1 + 0 ≤ 601024; omega, by show 3000 + 6 * k + 6 + 0 ≤ 7293034; omega⟩) (fun H locs hw => ?_)
  have hw := gH_mb hw
  refine lv_istore (pc := 599) (lv' := [(6, .int w), (5, .int (zR ko)), (0, .ref b), (1, .ref (ad 0)), (2, .ref (bd 0)), (3, .ref o), (4, .int (nI (5 * k)))]) hx hb dZ_law_599 hl (by decide) rfl (fun ls hl => ?_)
  refine lv_aload_n (pc := 601) hx hb dZ_law_601 rfl (lv_at hl 4 rfl) ?_
  refine j_cpi (pc := 602) (v := τo 100 0) (va_runV (As := []) (rest := []) S (kM_thrown l D cb bd _ τo (τo 100 0) rfl) (cwV 0 S.2.2.2.2 (jgV k_672 k_673 k_674 k_7 k_675) rfl rfl rfl (by decide +kernel) ⟨Nat.le_of_ble_eq_true rfl, Nat.le_of_ble_eq_true rfl⟩) (j_preV (As := []) (gH_m hw) mN_b (mN_to trivial (gH_m hw) (fun _ h => h)) rfl mg_0) rfl rfl hl.1 rfl (lv_room (Nat.le_of_ble_eq_true rfl)) dZ_law_602 ⟨by show 100 + k + 1 + 0 + 0 ≤ 601024; omega, by show 3000 + 6 * k + 6 + 0 + 0 ≤ 7293034; omega⟩) ?_
  refine lv_iload (pc := 605) hx hb dZ_law_605 (lv_at hl 1 rfl) ?_
  refine lv_icmp_eq (pc := 607) (tgt := 612) hx hb dZ_law_607 (by decide) (fun _ => ?_) (fun h => absurd hth h)
  refine lv_iload (pc := 612) hx hb dZ_law_612 (lv_at hl 1 rfl) ?_
  refine lv_if_ne (pc := 614) (tgt := 629) hx hb dZ_law_614 (by decide) (fun _ => ?_) (fun h0 => ?_)
  · refine lv_goto (pc := 629) (tgt := 1120) hx hb dZ_law_629 (by decide) ?_
    exact cont σo τo (zG ko vo g) _ _ _ _ _ hI2 (lv_sub hl [2, 3, 4, 5, 6] rfl) hw (by omega) (by omega)
  · have hko : ko = 0 := zR_0 h0
    subst hko
    have hv0 := hvw rfl
    subst hv0
    refine lv_aload_n (pc := 617) hx hb dZ_law_617 rfl (lv_at hl 5 rfl) ?_
    refine lv_iconst (pc := 618) (v := (0 : Int32)) hx hb dZ_law_618 (by decide) ?_
    refine va_lald (pc := 619) hx hb hw.2.2.2 hw.1 46 39 (cA := cJ) (n := 1) (f := zG 0 vo g) rfl rfl vp00 dZ_law_619 ?_
    refine lv_iload (pc := 620) hx hb dZ_law_620 (lv_at hl 0 rfl) ?_
    refine lv_i2l (pc := 622) (v := vo.toInt64) hx hb dZ_law_622 rfl ?_
    refine j_lcmp0 (pc := 623) (tgt := 629) hx hb dZ_law_623 dZ_law_624 (by decide) rfl ?_
    refine lv_goto (pc := 629) (tgt := 1120) hx hb dZ_law_629 (by decide) ?_
    exact cont σo τo (zG 0 vo g) _ _ _ _ _ hI2 (lv_sub hl [2, 3, 4, 5, 6] rfl) hw (by omega) (by omega)
set_option maxHeartbeats 4000000 in
set_option maxRecDepth 100000 in
theorem cs_remove {p : Program} {l : Launch} {e : Env} {s : State} {m : MethodId} {below : List Frame} {meth : Method} {c : Code} {b L : Nat} {xs : Nat → Int32} {D : va_G} {ca cb : Nat → ClassId} {ad bd : Nat → Nat} {o : Nat} {cJ : ClassId} {Q : State → Prop} (I : JS → JS → Prop) (hl9 : l.stackTraces = false) (S : CallFix p m c code 7 s #[Value.ref b] jall RZ) (hN : xN (gA s) s) (hNc : va_Nc (jE 2) (jE 1) s) (hX : va_X b L xs s s.heap) (hbl : b < s.heap.size) (hL : L ≤ 2560) (k : Nat) (hk : 5 * k + 5 ≤ L)  (ho : jo_remove I) (cont : ∀ (σ τ : JS) (g : Nat → Int64) (ls : Array Slot) (H : Heap) (locs : List Loc) (cells slots : Nat), I σ τ → lv_has ls 7 [(0, .ref b), (1, .ref (ad 0)), (2, .ref (bd 0)), (3, .ref o), (4, .int (nI (5 * k)))] → jH D (gT ca cb cJ) (gC ca ad cb bd o cJ σ τ g) (gA s) s.heap H locs s → cells ≤ 101 + k → slots ≤ 3006 + 6 * k → W p l e room_1 s m #[Value.ref b] below meth c H locs cells slots Q (F0 m 1120 ls [])) (σ τ : JS) (g : Nat → Int64) (ls : Array Slot) (H : Heap) (locs : List Loc) (hI : I σ τ) (hl : lv_has ls 7 [(0, .ref b), (1, .ref (ad 0)), (2, .ref (bd 0)), (3, .ref o), (4, .int (nI (5 * k)))]) (hw : jH D (gT ca cb cJ) (gC ca ad cb bd o cJ σ τ g) (gA s) s.heap H locs s) : W p l e room_1 s m #[Value.ref b] below meth c H locs (100 + k) (3000 + 6 * k) Q (F0 m 632 ls []) := by
  have hx := S.1
  have hb := S.2.1
  obtain ⟨ko, vo, σo, w, τo, hfx, hfm, hth, hvw, hI2⟩ := ho σ τ (xs (nI (5 * k) + 1).toNatClampNeg) (xs (nI (5 * k) + 2).toNatClampNeg) hI
  refine lv_aload_n (pc := 632) hx hb dZ_law_632 rfl (lv_at hl 1 rfl) ?_
  refine lv_aload_n (pc := 633) hx hb dZ_law_633 rfl (lv_at hl 0 rfl) ?_
  refine lv_iload (pc := 634) hx hb dZ_law_634 (lv_at hl 4 rfl) ?_
  refine lv_iconst (pc := 636) (v := (1 : Int32)) hx hb dZ_law_636 (by decide) ?_
  refine lv_iadd (pc := 637) hx hb dZ_law_637 ?_
  refine va_sld (pc := 638) hx hb hX hbl (Nat.not_le.mpr hbl) hw.2.2.1 (lw_in 1 (by decide) hk hL) dZ_law_638 ?_
  refine lv_aload_n (pc := 639) hx hb dZ_law_639 rfl (lv_at hl 0 rfl) ?_
  refine lv_iload (pc := 640) hx hb dZ_law_640 (lv_at hl 4 rfl) ?_
  refine lv_iconst (pc := 642) (v := (2 : Int32)) hx hb dZ_law_642 (by decide) ?_
  refine lv_iadd (pc := 643) hx hb dZ_law_643 ?_
  refine va_sld (pc := 644) hx hb hX hbl (Nat.not_le.mpr hbl) hw.2.2.1 (lw_in 2 (by decide) hk hL) dZ_law_644 ?_
  refine lv_aload_n (pc := 645) hx hb dZ_law_645 rfl (lv_at hl 3 rfl) ?_
  refine j_callZ (pc := 646) (v := zR ko) (σo := σo) (go := zG ko vo g) (gH_lf hw) (fun _ h => h) (j_runSW (n := 4) (As := [.ref (ad 0), .int (xs (nI (5 * k) + 1).toNatClampNeg), .int (xs (nI (5 * k) + 2).toNatClampNeg), .ref o]) (rest := []) (bytes := cZ_remove) (maxL := 5) (ret := some .int) (hh := [(0, 10, 13, 13), (0, 10, 17, 15)]) S (kZ_remove l hl9 D ca ad o cJ _ σ g (xs (nI (5 * k) + 1).toNatClampNeg) (xs (nI (5 * k) + 2).toNatClampNeg) ko vo σo hfx) rfl rfl (Nat.le_of_ble_eq_true rfl) (Nat.le_of_ble_eq_true rfl) (jgW k_502) List.mem_cons_self (S.2.2.2.2 _ k_0) (S.2.2.2.2 _ k_501) (S.2.2.2.2 _ k_500) (by decide +kernel) (j_preS (N := fun U => xN (va_A (lC ca ad o cJ σ g) H.size) U ∧ va_Nc (jE 2) (jE 1) U) (gH_l hw) (fun U g1 mk a1 h => ⟨xN_b U g1 mk a1 h.1, h.2.moved (Vm.Alike.refl U.vm)⟩) (fun U hU hW => ⟨xN_to hN (gH_l hw) (fun _ h => h) U hU hW, hNc.moved hW.alike⟩)) rfl hl.1 (Nat.le_of_ble_eq_true rfl) dZ_law_646 ⟨by show 100 + k + 1 ≤ 601024; omega, by show 3000 + 6 * k + 6 ≤ 7293034; omega⟩) (fun H locs hw => ?_)
  have hw := gH_lb hw
  refine lv_istore (pc := 649) (lv' := [(5, .int (zR ko)), (0, .ref b), (1, .ref (ad 0)), (2, .ref (bd 0)), (3, .ref o), (4, .int (nI (5 * k)))]) hx hb dZ_law_649 hl (by decide) rfl (fun ls hl => ?_)
  refine lv_aload_n (pc := 651) hx hb dZ_law_651 rfl (lv_at hl 3 rfl) ?_
  refine lv_aload_n (pc := 652) hx hb dZ_law_652 rfl (lv_at hl 1 rfl) ?_
  refine lv_iload (pc := 653) hx hb dZ_law_653 (lv_at hl 5 rfl) ?_
  refine lv_iconst (pc := 655) (v := (1 : Int32)) hx hb dZ_law_655 (by decide) ?_
  refine lv_iadd (pc := 656) hx hb dZ_law_656 ?_
  refine va_sld (pc := 657) hx hb hX hbl (Nat.not_le.mpr hbl) hw.2.2.1 (lw_in 1 (by decide) hk hL) dZ_law_657 ?_
  refine lv_aload_n (pc := 658) hx hb dZ_law_658 rfl (lv_at hl 1 rfl) ?_
  refine lv_iload (pc := 659) hx hb dZ_law_659 (lv_at hl 5 rfl) ?_
  refine lv_iconst (pc := 661) (v := (2 : Int32)) hx hb dZ_law_661 (by decide) ?_
  refine lv_iadd (pc := 662) hx hb dZ_law_662 ?_
  refine va_sld (pc := 663) hx hb hX hbl (Nat.not_le.mpr hbl) hw.2.2.1 (lw_in 2 (by decide) hk hL) dZ_law_663 ?_
  refine j_calliF (pc := 664) (C := mC cb bd) (σ' := τo) (v := w) (gH_mf hw) (fun _ h => h) (va_runV (As := [.int (xs (nI (5 * k) + 1).toNatClampNeg), .int (xs (nI (5 * k) + 2).toNatClampNeg)]) (rest := []) S (kM_remove l D cb bd _ τ (xs (nI (5 * k) + 1).toNatClampNeg) (xs (nI (5 * k) + 2).toNatClampNeg) (w, τo) hfm) (cwV 2 S.2.2.2.2 (jgV k_776 k_777 k_778 k_7 k_779) rfl rfl rfl (by decide +kernel) ⟨Nat.le_of_ble_eq_true rfl, Nat.le_of_ble_eq_true rfl⟩) (j_preV (As := [.int (xs (nI (5 * k) + 1).toNatClampNeg), .int (xs (nI (5 * k) + 2).toNatClampNeg)]) (gH_m hw) mN_b (mN_to trivial (gH_m hw) (fun _ h => h)) rfl mg_0) rfl rfl hl.1 rfl (lv_room (Nat.le_of_ble_eq_true rfl)) dZ_law_664 ⟨by show 100 + k + 1 + 0 ≤ 601024; omega, by show 3000 + 6 * k + 6 + 0 ≤ 7293034; omega⟩) (fun H locs hw => ?_)
  have hw := gH_mb hw
  refine lv_istore (pc := 667) (lv' := [(6, .int w), (5, .int (zR ko)), (0, .ref b), (1, .ref (ad 0)), (2, .ref (bd 0)), (3, .ref o), (4, .int (nI (5 * k)))]) hx hb dZ_law_667 hl (by decide) rfl (fun ls hl => ?_)
  refine lv_aload_n (pc := 669) hx hb dZ_law_669 rfl (lv_at hl 4 rfl) ?_
  refine j_cpi (pc := 670) (v := τo 100 0) (va_runV (As := []) (rest := []) S (kM_thrown l D cb bd _ τo (τo 100 0) rfl) (cwV 0 S.2.2.2.2 (jgV k_672 k_673 k_674 k_7 k_675) rfl rfl rfl (by decide +kernel) ⟨Nat.le_of_ble_eq_true rfl, Nat.le_of_ble_eq_true rfl⟩) (j_preV (As := []) (gH_m hw) mN_b (mN_to trivial (gH_m hw) (fun _ h => h)) rfl mg_0) rfl rfl hl.1 rfl (lv_room (Nat.le_of_ble_eq_true rfl)) dZ_law_670 ⟨by show 100 + k + 1 + 0 + 0 ≤ 601024; omega, by show 3000 + 6 * k + 6 + 0 + 0 ≤ 7293034; omega⟩) ?_
  refine lv_iload (pc := 673) hx hb dZ_law_673 (lv_at hl 1 rfl) ?_
  refine lv_icmp_eq (pc := 675) (tgt := 680) hx hb dZ_law_675 (by decide) (fun _ => ?_) (fun h => absurd hth h)
  refine lv_iload (pc := 680) hx hb dZ_law_680 (lv_at hl 1 rfl) ?_
  refine lv_if_ne (pc := 682) (tgt := 697) hx hb dZ_law_682 (by decide) (fun _ => ?_) (fun h0 => ?_)
  · refine lv_goto (pc := 697) (tgt := 1120) hx hb dZ_law_697 (by decide) ?_
    exact cont σo τo (zG ko vo g) _ _ _ _ _ hI2 (lv_sub hl [2, 3, 4, 5, 6] rfl) hw (by omega) (by omega)
  · have hko : ko = 0 := zR_0 h0
    subst hko
    have hv0 := hvw rfl
    subst hv0
    refine lv_aload_n (pc := 685) hx hb dZ_law_685 rfl (lv_at hl 5 rfl) ?_
    refine lv_iconst (pc := 686) (v := (0 : Int32)) hx hb dZ_law_686 (by decide) ?_
    refine va_lald (pc := 687) hx hb hw.2.2.2 hw.1 46 39 (cA := cJ) (n := 1) (f := zG 0 vo g) rfl rfl vp00 dZ_law_687 ?_
    refine lv_iload (pc := 688) hx hb dZ_law_688 (lv_at hl 0 rfl) ?_
    refine lv_i2l (pc := 690) (v := vo.toInt64) hx hb dZ_law_690 rfl ?_
    refine j_lcmp0 (pc := 691) (tgt := 697) hx hb dZ_law_691 dZ_law_692 (by decide) rfl ?_
    refine lv_goto (pc := 697) (tgt := 1120) hx hb dZ_law_697 (by decide) ?_
    exact cont σo τo (zG 0 vo g) _ _ _ _ _ hI2 (lv_sub hl [2, 3, 4, 5, 6] rfl) hw (by omega) (by omega)
set_option maxHeartbeats 4000000 in
set_option maxRecDepth 100000 in
theorem cs_number {p : Program} {l : Launch} {e : Env} {s : State} {m : MethodId} {below : List Frame} {meth : Method} {c : Code} {b L : Nat} {xs : Nat → Int32} {D : va_G} {ca cb : Nat → ClassId} {ad bd : Nat → Nat} {o : Nat} {cJ : ClassId} {Q : State → Prop} (I : JS → JS → Prop) (hl9 : l.stackTraces = false) (S : CallFix p m c code 7 s #[Value.ref b] jall RZ) (hN : xN (gA s) s) (hNc : va_Nc (jE 2) (jE 1) s) (hX : va_X b L xs s s.heap) (hbl : b < s.heap.size) (hL : L ≤ 2560) (k : Nat) (hk : 5 * k + 5 ≤ L)  (ho : jo_number I) (cont : ∀ (σ τ : JS) (g : Nat → Int64) (ls : Array Slot) (H : Heap) (locs : List Loc) (cells slots : Nat), I σ τ → lv_has ls 7 [(0, .ref b), (1, .ref (ad 0)), (2, .ref (bd 0)), (3, .ref o), (4, .int (nI (5 * k)))] → jH D (gT ca cb cJ) (gC ca ad cb bd o cJ σ τ g) (gA s) s.heap H locs s → cells ≤ 101 + k → slots ≤ 3006 + 6 * k → W p l e room_1 s m #[Value.ref b] below meth c H locs cells slots Q (F0 m 1120 ls [])) (σ τ : JS) (g : Nat → Int64) (ls : Array Slot) (H : Heap) (locs : List Loc) (hI : I σ τ) (hl : lv_has ls 7 [(0, .ref b), (1, .ref (ad 0)), (2, .ref (bd 0)), (3, .ref o), (4, .int (nI (5 * k)))]) (hw : jH D (gT ca cb cJ) (gC ca ad cb bd o cJ σ τ g) (gA s) s.heap H locs s) : W p l e room_1 s m #[Value.ref b] below meth c H locs (100 + k) (3000 + 6 * k) Q (F0 m 700 ls []) := by
  have hx := S.1
  have hb := S.2.1
  obtain ⟨v, τo, hfx, hfm, hI2⟩ := ho σ τ (xs (nI (5 * k) + 1).toNatClampNeg) hI
  refine lv_aload_n (pc := 700) hx hb dZ_law_700 rfl (lv_at hl 1 rfl) ?_
  refine lv_aload_n (pc := 701) hx hb dZ_law_701 rfl (lv_at hl 0 rfl) ?_
  refine lv_iload (pc := 702) hx hb dZ_law_702 (lv_at hl 4 rfl) ?_
  refine lv_iconst (pc := 704) (v := (1 : Int32)) hx hb dZ_law_704 (by decide) ?_
  refine lv_iadd (pc := 705) hx hb dZ_law_705 ?_
  refine va_sld (pc := 706) hx hb hX hbl (Nat.not_le.mpr hbl) hw.2.2.1 (lw_in 1 (by decide) hk hL) dZ_law_706 ?_
  refine j_cpi (pc := 707) (v := v) (va_runV (As := [.int (xs (nI (5 * k) + 1).toNatClampNeg)]) (rest := []) S (kH_number l D ca ad _ σ (xs (nI (5 * k) + 1).toNatClampNeg) v hfx) (cwV 1 S.2.2.2.2 (jgV k_219 k_220 k_221 k_1 k_222) rfl rfl rfl (by decide +kernel) ⟨Nat.le_of_ble_eq_true rfl, Nat.le_of_ble_eq_true rfl⟩) (j_preV (As := [.int (xs (nI (5 * k) + 1).toNatClampNeg)]) (gH_x hw) xN_b (xN_to hN (gH_x hw) (fun _ h => h)) rfl xg_0) rfl rfl hl.1 rfl (lv_room (Nat.le_of_ble_eq_true rfl)) dZ_law_707 ⟨by show 100 + k + 0 ≤ 601024; omega, by show 3000 + 6 * k + 0 ≤ 7293034; omega⟩) ?_
  refine lv_aload_n (pc := 710) hx hb dZ_law_710 rfl (lv_at hl 2 rfl) ?_
  refine lv_aload_n (pc := 711) hx hb dZ_law_711 rfl (lv_at hl 0 rfl) ?_
  refine lv_iload (pc := 712) hx hb dZ_law_712 (lv_at hl 4 rfl) ?_
  refine lv_iconst (pc := 714) (v := (1 : Int32)) hx hb dZ_law_714 (by decide) ?_
  refine lv_iadd (pc := 715) hx hb dZ_law_715 ?_
  refine va_sld (pc := 716) hx hb hX hbl (Nat.not_le.mpr hbl) hw.2.2.1 (lw_in 1 (by decide) hk hL) dZ_law_716 ?_
  refine j_calliF (pc := 717) (C := mC cb bd) (σ' := τo) (v := v) (gH_mf hw) (fun _ h => h) (va_runV (As := [.int (xs (nI (5 * k) + 1).toNatClampNeg)]) (rest := [.int v]) S (kM_number l D cb bd _ τ (xs (nI (5 * k) + 1).toNatClampNeg) (v, τo) hfm) (cwV 1 S.2.2.2.2 (jgV k_780 k_781 k_782 k_7 k_783) rfl rfl rfl (by decide +kernel) ⟨Nat.le_of_ble_eq_true rfl, Nat.le_of_ble_eq_true rfl⟩) (j_preV (As := [.int (xs (nI (5 * k) + 1).toNatClampNeg)]) (gH_m hw) mN_b (mN_to trivial (gH_m hw) (fun _ h => h)) rfl mg_0) rfl rfl hl.1 rfl (lv_room (Nat.le_of_ble_eq_true rfl)) dZ_law_717 ⟨by show 100 + k + 0 ≤ 601024; omega, by show 3000 + 6 * k + 0 ≤ 7293034; omega⟩) (fun H locs hw => ?_)
  have hw := gH_mb hw
  refine lv_icmp_eq (pc := 720) (tgt := 1120) hx hb dZ_law_720 (by decide) (fun _ => ?_) (fun h => absurd rfl h)
  exact cont σ τo g _ _ _ _ _ hI2 hl hw (by omega) (by omega)
set_option maxHeartbeats 4000000 in
set_option maxRecDepth 100000 in
theorem cs_last {p : Program} {l : Launch} {e : Env} {s : State} {m : MethodId} {below : List Frame} {meth : Method} {c : Code} {b L : Nat} {xs : Nat → Int32} {D : va_G} {ca cb : Nat → ClassId} {ad bd : Nat → Nat} {o : Nat} {cJ : ClassId} {Q : State → Prop} (I : JS → JS → Prop) (hl9 : l.stackTraces = false) (S : CallFix p m c code 7 s #[Value.ref b] jall RZ) (hN : xN (gA s) s) (hNc : va_Nc (jE 2) (jE 1) s) (hX : va_X b L xs s s.heap) (hbl : b < s.heap.size) (hL : L ≤ 2560) (k : Nat) (hk : 5 * k + 5 ≤ L)  (ho : jo_last I) (cont : ∀ (σ τ : JS) (g : Nat → Int64) (ls : Array Slot) (H : Heap) (locs : List Loc) (cells slots : Nat), I σ τ → lv_has ls 7 [(0, .ref b), (1, .ref (ad 0)), (2, .ref (bd 0)), (3, .ref o), (4, .int (nI (5 * k)))] → jH D (gT ca cb cJ) (gC ca ad cb bd o cJ σ τ g) (gA s) s.heap H locs s → cells ≤ 101 + k → slots ≤ 3006 + 6 * k → W p l e room_1 s m #[Value.ref b] below meth c H locs cells slots Q (F0 m 1120 ls [])) (σ τ : JS) (g : Nat → Int64) (ls : Array Slot) (H : Heap) (locs : List Loc) (hI : I σ τ) (hl : lv_has ls 7 [(0, .ref b), (1, .ref (ad 0)), (2, .ref (bd 0)), (3, .ref o), (4, .int (nI (5 * k)))]) (hw : jH D (gT ca cb cJ) (gC ca ad cb bd o cJ σ τ g) (gA s) s.heap H locs s) : W p l e room_1 s m #[Value.ref b] below meth c H locs (100 + k) (3000 + 6 * k) Q (F0 m 725 ls []) := by
  have hx := S.1
  have hb := S.2.1
  obtain ⟨v, τo, hfx, hfm, hI2⟩ := ho σ τ  hI
  refine lv_aload_n (pc := 725) hx hb dZ_law_725 rfl (lv_at hl 1 rfl) ?_
  refine j_cpi (pc := 726) (v := v) (va_runV (As := []) (rest := []) S (kH_last l D ca ad _ σ  v hfx) (cwV 0 S.2.2.2.2 (jgV k_223 k_224 k_225 k_1 k_226) rfl rfl rfl (by decide +kernel) ⟨Nat.le_of_ble_eq_true rfl, Nat.le_of_ble_eq_true rfl⟩) (j_preV (As := []) (gH_x hw) xN_b (xN_to hN (gH_x hw) (fun _ h => h)) rfl xg_0) rfl rfl hl.1 rfl (lv_room (Nat.le_of_ble_eq_true rfl)) dZ_law_726 ⟨by show 100 + k + 0 ≤ 601024; omega, by show 3000 + 6 * k + 0 ≤ 7293034; omega⟩) ?_
  refine lv_aload_n (pc := 729) hx hb dZ_law_729 rfl (lv_at hl 2 rfl) ?_
  refine j_calliF (pc := 730) (C := mC cb bd) (σ' := τo) (v := v) (gH_mf hw) (fun _ h => h) (va_runV (As := []) (rest := [.int v]) S (kM_last l D cb bd _ τ  (v, τo) hfm) (cwV 0 S.2.2.2.2 (jgV k_784 k_785 k_786 k_7 k_787) rfl rfl rfl (by decide +kernel) ⟨Nat.le_of_ble_eq_true rfl, Nat.le_of_ble_eq_true rfl⟩) (j_preV (As := []) (gH_m hw) mN_b (mN_to trivial (gH_m hw) (fun _ h => h)) rfl mg_0) rfl rfl hl.1 rfl (lv_room (Nat.le_of_ble_eq_true rfl)) dZ_law_730 ⟨by show 100 + k + 0 ≤ 601024; omega, by show 3000 + 6 * k + 0 ≤ 7293034; omega⟩) (fun H locs hw => ?_)
  have hw := gH_mb hw
  refine lv_icmp_eq (pc := 733) (tgt := 1120) hx hb dZ_law_733 (by decide) (fun _ => ?_) (fun h => absurd rfl h)
  exact cont σ τo g _ _ _ _ _ hI2 hl hw (by omega) (by omega)
set_option maxHeartbeats 4000000 in
set_option maxRecDepth 100000 in
theorem cs_boundary {p : Program} {l : Launch} {e : Env} {s : State} {m : MethodId} {below : List Frame} {meth : Method} {c : Code} {b L : Nat} {xs : Nat → Int32} {D : va_G} {ca cb : Nat → ClassId} {ad bd : Nat → Nat} {o : Nat} {cJ : ClassId} {Q : State → Prop} (I : JS → JS → Prop) (hl9 : l.stackTraces = false) (S : CallFix p m c code 7 s #[Value.ref b] jall RZ) (hN : xN (gA s) s) (hNc : va_Nc (jE 2) (jE 1) s) (hX : va_X b L xs s s.heap) (hbl : b < s.heap.size) (hL : L ≤ 2560) (k : Nat) (hk : 5 * k + 5 ≤ L)  (ho : jo_boundary I) (cont : ∀ (σ τ : JS) (g : Nat → Int64) (ls : Array Slot) (H : Heap) (locs : List Loc) (cells slots : Nat), I σ τ → lv_has ls 7 [(0, .ref b), (1, .ref (ad 0)), (2, .ref (bd 0)), (3, .ref o), (4, .int (nI (5 * k)))] → jH D (gT ca cb cJ) (gC ca ad cb bd o cJ σ τ g) (gA s) s.heap H locs s → cells ≤ 101 + k → slots ≤ 3006 + 6 * k → W p l e room_1 s m #[Value.ref b] below meth c H locs cells slots Q (F0 m 1120 ls [])) (σ τ : JS) (g : Nat → Int64) (ls : Array Slot) (H : Heap) (locs : List Loc) (hI : I σ τ) (hl : lv_has ls 7 [(0, .ref b), (1, .ref (ad 0)), (2, .ref (bd 0)), (3, .ref o), (4, .int (nI (5 * k)))]) (hw : jH D (gT ca cb cJ) (gC ca ad cb bd o cJ σ τ g) (gA s) s.heap H locs s) : W p l e room_1 s m #[Value.ref b] below meth c H locs (100 + k) (3000 + 6 * k) Q (F0 m 738 ls []) := by
  have hx := S.1
  have hb := S.2.1
  obtain ⟨v, τo, hfx, hfm, hI2⟩ := ho σ τ (xs (nI (5 * k) + 1).toNatClampNeg) (xs (nI (5 * k) + 2).toNatClampNeg) hI
  refine lv_aload_n (pc := 738) hx hb dZ_law_738 rfl (lv_at hl 1 rfl) ?_
  refine lv_aload_n (pc := 739) hx hb dZ_law_739 rfl (lv_at hl 0 rfl) ?_
  refine lv_iload (pc := 740) hx hb dZ_law_740 (lv_at hl 4 rfl) ?_
  refine lv_iconst (pc := 742) (v := (1 : Int32)) hx hb dZ_law_742 (by decide) ?_
  refine lv_iadd (pc := 743) hx hb dZ_law_743 ?_
  refine va_sld (pc := 744) hx hb hX hbl (Nat.not_le.mpr hbl) hw.2.2.1 (lw_in 1 (by decide) hk hL) dZ_law_744 ?_
  refine lv_aload_n (pc := 745) hx hb dZ_law_745 rfl (lv_at hl 0 rfl) ?_
  refine lv_iload (pc := 746) hx hb dZ_law_746 (lv_at hl 4 rfl) ?_
  refine lv_iconst (pc := 748) (v := (2 : Int32)) hx hb dZ_law_748 (by decide) ?_
  refine lv_iadd (pc := 749) hx hb dZ_law_749 ?_
  refine va_sld (pc := 750) hx hb hX hbl (Nat.not_le.mpr hbl) hw.2.2.1 (lw_in 2 (by decide) hk hL) dZ_law_750 ?_
  refine j_cpi (pc := 751) (v := v) (va_runV (As := [.int (xs (nI (5 * k) + 1).toNatClampNeg), .int (xs (nI (5 * k) + 2).toNatClampNeg)]) (rest := []) S (kH_boundary l D ca ad _ σ (xs (nI (5 * k) + 1).toNatClampNeg) (xs (nI (5 * k) + 2).toNatClampNeg) v hfx) (cwV 2 S.2.2.2.2 (jgV k_227 k_228 k_229 k_1 k_230) rfl rfl rfl (by decide +kernel) ⟨Nat.le_of_ble_eq_true rfl, Nat.le_of_ble_eq_true rfl⟩) (j_preV (As := [.int (xs (nI (5 * k) + 1).toNatClampNeg), .int (xs (nI (5 * k) + 2).toNatClampNeg)]) (gH_x hw) xN_b (xN_to hN (gH_x hw) (fun _ h => h)) rfl xg_0) rfl rfl hl.1 rfl (lv_room (Nat.le_of_ble_eq_true rfl)) dZ_law_751 ⟨by show 100 + k + 0 ≤ 601024; omega, by show 3000 + 6 * k + 0 ≤ 7293034; omega⟩) ?_
  refine lv_aload_n (pc := 754) hx hb dZ_law_754 rfl (lv_at hl 2 rfl) ?_
  refine lv_aload_n (pc := 755) hx hb dZ_law_755 rfl (lv_at hl 0 rfl) ?_
  refine lv_iload (pc := 756) hx hb dZ_law_756 (lv_at hl 4 rfl) ?_
  refine lv_iconst (pc := 758) (v := (1 : Int32)) hx hb dZ_law_758 (by decide) ?_
  refine lv_iadd (pc := 759) hx hb dZ_law_759 ?_
  refine va_sld (pc := 760) hx hb hX hbl (Nat.not_le.mpr hbl) hw.2.2.1 (lw_in 1 (by decide) hk hL) dZ_law_760 ?_
  refine lv_aload_n (pc := 761) hx hb dZ_law_761 rfl (lv_at hl 0 rfl) ?_
  refine lv_iload (pc := 762) hx hb dZ_law_762 (lv_at hl 4 rfl) ?_
  refine lv_iconst (pc := 764) (v := (2 : Int32)) hx hb dZ_law_764 (by decide) ?_
  refine lv_iadd (pc := 765) hx hb dZ_law_765 ?_
  refine va_sld (pc := 766) hx hb hX hbl (Nat.not_le.mpr hbl) hw.2.2.1 (lw_in 2 (by decide) hk hL) dZ_law_766 ?_
  refine j_calliF (pc := 767) (C := mC cb bd) (σ' := τo) (v := v) (gH_mf hw) (fun _ h => h) (va_runV (As := [.int (xs (nI (5 * k) + 1).toNatClampNeg), .int (xs (nI (5 * k) + 2).toNatClampNeg)]) (rest := [.int v]) S (kM_boundary l D cb bd _ τ (xs (nI (5 * k) + 1).toNatClampNeg) (xs (nI (5 * k) + 2).toNatClampNeg) (v, τo) hfm) (cwV 2 S.2.2.2.2 (jgV k_788 k_789 k_790 k_7 k_791) rfl rfl rfl (by decide +kernel) ⟨Nat.le_of_ble_eq_true rfl, Nat.le_of_ble_eq_true rfl⟩) (j_preV (As := [.int (xs (nI (5 * k) + 1).toNatClampNeg), .int (xs (nI (5 * k) + 2).toNatClampNeg)]) (gH_m hw) mN_b (mN_to trivial (gH_m hw) (fun _ h => h)) rfl mg_0) rfl rfl hl.1 rfl (lv_room (Nat.le_of_ble_eq_true rfl)) dZ_law_767 ⟨by show 100 + k + 0 ≤ 601024; omega, by show 3000 + 6 * k + 0 ≤ 7293034; omega⟩) (fun H locs hw => ?_)
  have hw := gH_mb hw
  refine lv_icmp_eq (pc := 770) (tgt := 1120) hx hb dZ_law_770 (by decide) (fun _ => ?_) (fun h => absurd rfl h)
  exact cont σ τo g _ _ _ _ _ hI2 hl hw (by omega) (by omega)
set_option maxHeartbeats 4000000 in
set_option maxRecDepth 100000 in
theorem cs_entry {p : Program} {l : Launch} {e : Env} {s : State} {m : MethodId} {below : List Frame} {meth : Method} {c : Code} {b L : Nat} {xs : Nat → Int32} {D : va_G} {ca cb : Nat → ClassId} {ad bd : Nat → Nat} {o : Nat} {cJ : ClassId} {Q : State → Prop} (I : JS → JS → Prop) (hl9 : l.stackTraces = false) (S : CallFix p m c code 7 s #[Value.ref b] jall RZ) (hN : xN (gA s) s) (hNc : va_Nc (jE 2) (jE 1) s) (hX : va_X b L xs s s.heap) (hbl : b < s.heap.size) (hL : L ≤ 2560) (k : Nat) (hk : 5 * k + 5 ≤ L)  (ho : jo_entry I) (cont : ∀ (σ τ : JS) (g : Nat → Int64) (ls : Array Slot) (H : Heap) (locs : List Loc) (cells slots : Nat), I σ τ → lv_has ls 7 [(0, .ref b), (1, .ref (ad 0)), (2, .ref (bd 0)), (3, .ref o), (4, .int (nI (5 * k)))] → jH D (gT ca cb cJ) (gC ca ad cb bd o cJ σ τ g) (gA s) s.heap H locs s → cells ≤ 101 + k → slots ≤ 3006 + 6 * k → W p l e room_1 s m #[Value.ref b] below meth c H locs cells slots Q (F0 m 1120 ls [])) (σ τ : JS) (g : Nat → Int64) (ls : Array Slot) (H : Heap) (locs : List Loc) (hI : I σ τ) (hl : lv_has ls 7 [(0, .ref b), (1, .ref (ad 0)), (2, .ref (bd 0)), (3, .ref o), (4, .int (nI (5 * k)))]) (hw : jH D (gT ca cb cJ) (gC ca ad cb bd o cJ σ τ g) (gA s) s.heap H locs s) : W p l e room_1 s m #[Value.ref b] below meth c H locs (100 + k) (3000 + 6 * k) Q (F0 m 775 ls []) := by
  have hx := S.1
  have hb := S.2.1
  obtain ⟨v, τo, hfx, hfm, hI2⟩ := ho σ τ (xs (nI (5 * k) + 1).toNatClampNeg) (xs (nI (5 * k) + 2).toNatClampNeg) hI
  refine lv_aload_n (pc := 775) hx hb dZ_law_775 rfl (lv_at hl 1 rfl) ?_
  refine lv_aload_n (pc := 776) hx hb dZ_law_776 rfl (lv_at hl 0 rfl) ?_
  refine lv_iload (pc := 777) hx hb dZ_law_777 (lv_at hl 4 rfl) ?_
  refine lv_iconst (pc := 779) (v := (1 : Int32)) hx hb dZ_law_779 (by decide) ?_
  refine lv_iadd (pc := 780) hx hb dZ_law_780 ?_
  refine va_sld (pc := 781) hx hb hX hbl (Nat.not_le.mpr hbl) hw.2.2.1 (lw_in 1 (by decide) hk hL) dZ_law_781 ?_
  refine lv_aload_n (pc := 782) hx hb dZ_law_782 rfl (lv_at hl 0 rfl) ?_
  refine lv_iload (pc := 783) hx hb dZ_law_783 (lv_at hl 4 rfl) ?_
  refine lv_iconst (pc := 785) (v := (2 : Int32)) hx hb dZ_law_785 (by decide) ?_
  refine lv_iadd (pc := 786) hx hb dZ_law_786 ?_
  refine va_sld (pc := 787) hx hb hX hbl (Nat.not_le.mpr hbl) hw.2.2.1 (lw_in 2 (by decide) hk hL) dZ_law_787 ?_
  refine j_cpl (pc := 788) (v := v) (va_runV (As := [.int (xs (nI (5 * k) + 1).toNatClampNeg), .int (xs (nI (5 * k) + 2).toNatClampNeg)]) (rest := []) S (kH_entry l D ca ad _ σ (xs (nI (5 * k) + 1).toNatClampNeg) (xs (nI (5 * k) + 2).toNatClampNeg) v hfx) (cwV 2 S.2.2.2.2 (jgV k_235 k_236 k_237 k_1 k_238) rfl rfl rfl (by decide +kernel) ⟨Nat.le_of_ble_eq_true rfl, Nat.le_of_ble_eq_true rfl⟩) (j_preV (As := [.int (xs (nI (5 * k) + 1).toNatClampNeg), .int (xs (nI (5 * k) + 2).toNatClampNeg)]) (gH_x hw) xN_b (xN_to hN (gH_x hw) (fun _ h => h)) rfl xg_0) rfl rfl hl.1 rfl (lv_room (Nat.le_of_ble_eq_true rfl)) dZ_law_788 ⟨by show 100 + k + 0 ≤ 601024; omega, by show 3000 + 6 * k + 0 ≤ 7293034; omega⟩) ?_
  refine lv_aload_n (pc := 791) hx hb dZ_law_791 rfl (lv_at hl 2 rfl) ?_
  refine lv_aload_n (pc := 792) hx hb dZ_law_792 rfl (lv_at hl 0 rfl) ?_
  refine lv_iload (pc := 793) hx hb dZ_law_793 (lv_at hl 4 rfl) ?_
  refine lv_iconst (pc := 795) (v := (1 : Int32)) hx hb dZ_law_795 (by decide) ?_
  refine lv_iadd (pc := 796) hx hb dZ_law_796 ?_
  refine va_sld (pc := 797) hx hb hX hbl (Nat.not_le.mpr hbl) hw.2.2.1 (lw_in 1 (by decide) hk hL) dZ_law_797 ?_
  refine lv_aload_n (pc := 798) hx hb dZ_law_798 rfl (lv_at hl 0 rfl) ?_
  refine lv_iload (pc := 799) hx hb dZ_law_799 (lv_at hl 4 rfl) ?_
  refine lv_iconst (pc := 801) (v := (2 : Int32)) hx hb dZ_law_801 (by decide) ?_
  refine lv_iadd (pc := 802) hx hb dZ_law_802 ?_
  refine va_sld (pc := 803) hx hb hX hbl (Nat.not_le.mpr hbl) hw.2.2.1 (lw_in 2 (by decide) hk hL) dZ_law_803 ?_
  refine j_calllF (pc := 804) (C := mC cb bd) (σ' := τo) (v := v) (gH_mf hw) (fun _ h => h) (va_runV (As := [.int (xs (nI (5 * k) + 1).toNatClampNeg), .int (xs (nI (5 * k) + 2).toNatClampNeg)]) (rest := [.long v]) S (kM_entry l D cb bd _ τ (xs (nI (5 * k) + 1).toNatClampNeg) (xs (nI (5 * k) + 2).toNatClampNeg) (v, τo) hfm) (cwV 2 S.2.2.2.2 (jgV k_792 k_793 k_794 k_7 k_795) rfl rfl rfl (by decide +kernel) ⟨Nat.le_of_ble_eq_true rfl, Nat.le_of_ble_eq_true rfl⟩) (j_preV (As := [.int (xs (nI (5 * k) + 1).toNatClampNeg), .int (xs (nI (5 * k) + 2).toNatClampNeg)]) (gH_m hw) mN_b (mN_to trivial (gH_m hw) (fun _ h => h)) rfl mg_0) rfl rfl hl.1 rfl (lv_room (Nat.le_of_ble_eq_true rfl)) dZ_law_804 ⟨by show 100 + k + 0 ≤ 601024; omega, by show 3000 + 6 * k + 0 ≤ 7293034; omega⟩) (fun H locs hw => ?_)
  have hw := gH_mb hw
  refine j_lcmp0 (pc := 807) (tgt := 1120) hx hb dZ_law_807 dZ_law_808 (by decide) rfl ?_
  exact cont σ τo g _ _ _ _ _ hI2 hl hw (by omega) (by omega)
set_option maxHeartbeats 4000000 in
set_option maxRecDepth 100000 in
theorem cs_drop {p : Program} {l : Launch} {e : Env} {s : State} {m : MethodId} {below : List Frame} {meth : Method} {c : Code} {b L : Nat} {xs : Nat → Int32} {D : va_G} {ca cb : Nat → ClassId} {ad bd : Nat → Nat} {o : Nat} {cJ : ClassId} {Q : State → Prop} (I : JS → JS → Prop) (hl9 : l.stackTraces = false) (S : CallFix p m c code 7 s #[Value.ref b] jall RZ) (hN : xN (gA s) s) (hNc : va_Nc (jE 2) (jE 1) s) (hX : va_X b L xs s s.heap) (hbl : b < s.heap.size) (hL : L ≤ 2560) (k : Nat) (hk : 5 * k + 5 ≤ L)  (ho : jo_drop I) (cont : ∀ (σ τ : JS) (g : Nat → Int64) (ls : Array Slot) (H : Heap) (locs : List Loc) (cells slots : Nat), I σ τ → lv_has ls 7 [(0, .ref b), (1, .ref (ad 0)), (2, .ref (bd 0)), (3, .ref o), (4, .int (nI (5 * k)))] → jH D (gT ca cb cJ) (gC ca ad cb bd o cJ σ τ g) (gA s) s.heap H locs s → cells ≤ 101 + k → slots ≤ 3006 + 6 * k → W p l e room_1 s m #[Value.ref b] below meth c H locs cells slots Q (F0 m 1120 ls [])) (σ τ : JS) (g : Nat → Int64) (ls : Array Slot) (H : Heap) (locs : List Loc) (hI : I σ τ) (hl : lv_has ls 7 [(0, .ref b), (1, .ref (ad 0)), (2, .ref (bd 0)), (3, .ref o), (4, .int (nI (5 * k)))]) (hw : jH D (gT ca cb cJ) (gC ca ad cb bd o cJ σ τ g) (gA s) s.heap H locs s) : W p l e room_1 s m #[Value.ref b] below meth c H locs (100 + k) (3000 + 6 * k) Q (F0 m 813 ls []) := by
  have hx := S.1
  have hb := S.2.1
  obtain ⟨ko, vo, σo, w, τo, hfx, hfm, hth, hvw, hk1, hI2⟩ := ho σ τ  hI
  refine lv_aload_n (pc := 813) hx hb dZ_law_813 rfl (lv_at hl 1 rfl) ?_
  refine lv_aload_n (pc := 814) hx hb dZ_law_814 rfl (lv_at hl 3 rfl) ?_
  refine j_callZ (pc := 815) (v := zR1 ko) (σo := σo) (go := zG ko vo g) (gH_lf hw) (fun _ h => h) (j_runSW (n := 2) (As := [.ref (ad 0), .ref o]) (rest := []) (bytes := cZ_drop) (maxL := 3) (ret := some .int) (hh := [(0, 8, 11, 15)]) S (kZ_drop l hl9 D ca ad o cJ _ σ g  ko vo σo hk1 hfx) rfl rfl (Nat.le_of_ble_eq_true rfl) (Nat.le_of_ble_eq_true rfl) (jgW k_517) List.mem_cons_self (S.2.2.2.2 _ k_0) (S.2.2.2.2 _ k_516) (S.2.2.2.2 _ k_515) (by decide +kernel) (j_preS (N := fun U => xN (va_A (lC ca ad o cJ σ g) H.size) U ∧ va_Nc (jE 2) (jE 1) U) (gH_l hw) (fun U g1 mk a1 h => ⟨xN_b U g1 mk a1 h.1, h.2.moved (Vm.Alike.refl U.vm)⟩) (fun U hU hW => ⟨xN_to hN (gH_l hw) (fun _ h => h) U hU hW, hNc.moved hW.alike⟩)) rfl hl.1 (Nat.le_of_ble_eq_true rfl) dZ_law_815 ⟨by show 100 + k + 1 ≤ 601024; omega, by show 3000 + 6 * k + 6 ≤ 7293034; omega⟩) (fun H locs hw => ?_)
  have hw := gH_lb hw
  refine lv_istore (pc := 818) (lv' := [(5, .int (zR1 ko)), (0, .ref b), (1, .ref (ad 0)), (2, .ref (bd 0)), (3, .ref o), (4, .int (nI (5 * k)))]) hx hb dZ_law_818 hl (by decide) rfl (fun ls hl => ?_)
  refine lv_aload_n (pc := 820) hx hb dZ_law_820 rfl (lv_at hl 3 rfl) ?_
  refine j_calliF (pc := 821) (C := mC cb bd) (σ' := τo) (v := w) (gH_mf hw) (fun _ h => h) (va_runV (As := []) (rest := []) S (kM_drop l D cb bd _ τ  (w, τo) hfm) (cwV 0 S.2.2.2.2 (jgV k_800 k_801 k_802 k_7 k_803) rfl rfl rfl (by decide +kernel) ⟨Nat.le_of_ble_eq_true rfl, Nat.le_of_ble_eq_true rfl⟩) (j_preV (As := []) (gH_m hw) mN_b (mN_to trivial (gH_m hw) (fun _ h => h)) rfl mg_0) rfl rfl hl.1 rfl (lv_room (Nat.le_of_ble_eq_true rfl)) dZ_law_821 ⟨by show 100 + k + 1 + 0 ≤ 601024; omega, by show 3000 + 6 * k + 6 + 0 ≤ 7293034; omega⟩) (fun H locs hw => ?_)
  have hw := gH_mb hw
  refine lv_istore (pc := 824) (lv' := [(6, .int w), (5, .int (zR1 ko)), (0, .ref b), (1, .ref (ad 0)), (2, .ref (bd 0)), (3, .ref o), (4, .int (nI (5 * k)))]) hx hb dZ_law_824 hl (by decide) rfl (fun ls hl => ?_)
  refine lv_aload_n (pc := 826) hx hb dZ_law_826 rfl (lv_at hl 4 rfl) ?_
  refine j_cpi (pc := 827) (v := τo 100 0) (va_runV (As := []) (rest := []) S (kM_thrown l D cb bd _ τo (τo 100 0) rfl) (cwV 0 S.2.2.2.2 (jgV k_672 k_673 k_674 k_7 k_675) rfl rfl rfl (by decide +kernel) ⟨Nat.le_of_ble_eq_true rfl, Nat.le_of_ble_eq_true rfl⟩) (j_preV (As := []) (gH_m hw) mN_b (mN_to trivial (gH_m hw) (fun _ h => h)) rfl mg_0) rfl rfl hl.1 rfl (lv_room (Nat.le_of_ble_eq_true rfl)) dZ_law_827 ⟨by show 100 + k + 1 + 0 + 0 ≤ 601024; omega, by show 3000 + 6 * k + 6 + 0 + 0 ≤ 7293034; omega⟩) ?_
  refine lv_iload (pc := 830) hx hb dZ_law_830 (lv_at hl 1 rfl) ?_
  refine lv_icmp_eq (pc := 832) (tgt := 837) hx hb dZ_law_832 (by decide) (fun _ => ?_) (fun h => absurd hth h)
  refine lv_iload (pc := 837) hx hb dZ_law_837 (lv_at hl 1 rfl) ?_
  refine lv_if_ne (pc := 839) (tgt := 854) hx hb dZ_law_839 (by decide) (fun _ => ?_) (fun h0 => ?_)
  · refine lv_goto (pc := 854) (tgt := 1120) hx hb dZ_law_854 (by decide) ?_
    exact cont σo τo (zG ko vo g) _ _ _ _ _ hI2 (lv_sub hl [2, 3, 4, 5, 6] rfl) hw (by omega) (by omega)
  · have hko : ko = 0 := zR1_0 h0
    subst hko
    have hv0 := hvw rfl
    subst hv0
    refine lv_aload_n (pc := 842) hx hb dZ_law_842 rfl (lv_at hl 5 rfl) ?_
    refine lv_iconst (pc := 843) (v := (0 : Int32)) hx hb dZ_law_843 (by decide) ?_
    refine va_lald (pc := 844) hx hb hw.2.2.2 hw.1 46 39 (cA := cJ) (n := 1) (f := zG 0 vo g) rfl rfl vp00 dZ_law_844 ?_
    refine lv_iload (pc := 845) hx hb dZ_law_845 (lv_at hl 0 rfl) ?_
    refine lv_i2l (pc := 847) (v := vo.toInt64) hx hb dZ_law_847 rfl ?_
    refine j_lcmp0 (pc := 848) (tgt := 854) hx hb dZ_law_848 dZ_law_849 (by decide) rfl ?_
    refine lv_goto (pc := 854) (tgt := 1120) hx hb dZ_law_854 (by decide) ?_
    exact cont σo τo (zG 0 vo g) _ _ _ _ _ hI2 (lv_sub hl [2, 3, 4, 5, 6] rfl) hw (by omega) (by omega)
