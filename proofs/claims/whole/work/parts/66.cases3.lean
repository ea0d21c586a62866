set_option maxHeartbeats 4000000 in
set_option maxRecDepth 100000 in
theorem cs_cut {p : Program} {l : Launch} {e : Env} {s : State} {m : MethodId} {below : List Frame} {meth : Method} {c : Code} {b L : Nat} {xs : Nat → Int32} {D : va_G} {ca cb : Nat → ClassId} {ad bd : Nat → Nat} {o : Nat} {cJ : ClassId} {Q : State → Prop} (I : JS → JS → Prop) (hl9 : l.stackTraces = false) (S : CallFix p m c code 7 s #[Value.ref b] jall RZ) (hN : xN (gA s) s) (hNc : va_Nc (jE 2) (jE 1) s) (hX : va_X b L xs s s.heap) (hbl : b < s.heap.size) (hL : L ≤ 2560) (k : Nat) (hk : 5 * k + 5 ≤ L)  (ho : jo_cut I) (cont : ∀ (σ τ : JS) (g : Nat → Int64) (ls : Array Slot) (H : Heap) (locs : List Loc) (cells slots : Nat), I σ τ → lv_has ls 7 [(0, .ref b), (1, .ref (ad 0)), (2, .ref (bd 0)), (3, .ref o), (4, .int (nI (5 * k)))] → jH D (gT ca cb cJ) (gC ca ad cb bd o cJ σ τ g) (gA s) s.heap H locs s → cells ≤ 101 + k → slots ≤ 3006 + 6 * k → W p l e room_1 s m #[Value.ref b] below meth c H locs cells slots Q (F0 m 1120 ls [])) (σ τ : JS) (g : Nat → Int64) (ls : Array Slot) (H : Heap) (locs : List Loc) (hI : I σ τ) (hl : lv_has ls 7 [(0, .ref b), (1, .ref (ad 0)), (2, .ref (bd 0)), (3, .ref o), (4, .int (nI (5 * k)))]) (hw : jH D (gT ca cb cJ) (gC ca ad cb bd o cJ σ τ g) (gA s) s.heap H locs s) : W p l e room_1 s m #[Value.ref b] below meth c H locs (100 + k) (3000 + 6 * k) Q (F0 m 857 ls []) := by
  have hx := S.1
  have hb := S.2.1
  obtain ⟨ko, vo, σo, w, τo, hfx, hfm, hth, hvw, hI2⟩ := ho σ τ (xs (nI (5 * k) + 1).toNatClampNeg) hI
  refine lv_aload_n (pc := 857) hx hb dZ_law_857 rfl (lv_at hl 1 rfl) ?_
  refine lv_aload_n (pc := 858) hx hb dZ_law_858 rfl (lv_at hl 0 rfl) ?_
  refine lv_iload (pc := 859) hx hb dZ_law_859 (lv_at hl 4 rfl) ?_
  refine lv_iconst (pc := 861) (v := (1 : Int32)) hx hb dZ_law_861 (by decide) ?_
  refine lv_iadd (pc := 862) hx hb dZ_law_862 ?_
  refine va_sld (pc := 863) hx hb hX hbl (Nat.not_le.mpr hbl) hw.2.2.1 (lw_in 1 (by decide) hk hL) dZ_law_863 ?_
  refine lv_aload_n (pc := 864) hx hb dZ_law_864 rfl (lv_at hl 3 rfl) ?_
  refine j_callZ (pc := 865) (v := zR ko) (σo := σo) (go := zG ko vo g) (gH_lf hw) (fun _ h => h) (j_runSW (n := 3) (As := [.ref (ad 0), .int (xs (nI (5 * k) + 1).toNatClampNeg), .ref o]) (rest := []) (bytes := cZ_cut) (maxL := 4) (ret := some .int) (hh := [(0, 9, 12, 13), (0, 9, 15, 15)]) S (kZ_cut l hl9 D ca ad o cJ _ σ g (xs (nI (5 * k) + 1).toNatClampNeg) ko vo σo hfx) rfl rfl (Nat.le_of_ble_eq_true rfl) (Nat.le_of_ble_eq_true rfl) (jgW k_534) List.mem_cons_self (S.2.2.2.2 _ k_0) (S.2.2.2.2 _ k_533) (S.2.2.2.2 _ k_532) (by decide +kernel) (j_preS (N := fun U => xN (va_A (lC ca ad o cJ σ g) H.size) U ∧ va_Nc (jE 2) (jE 1) U) (gH_l hw) (fun U g1 mk a1 h => ⟨xN_b U g1 mk a1 h.1, h.2.moved (Vm.Alike.refl U.vm)⟩) (fun U hU hW => ⟨xN_to hN (gH_l hw) (fun _ h => h) U hU hW, hNc.moved hW.alike⟩)) rfl hl.1 (Nat.le_of_ble_eq_true rfl) dZ_law_865 ⟨by show 100 + k + 1 ≤ 601024; omega, by show 3000 + 6 * k + 6 ≤ 7293034; omega⟩) (fun H locs hw => ?_)
  have hw := gH_lb hw
  refine lv_istore (pc := 868) (lv' := [(5, .int (zR ko)), (0, .ref b), (1, .ref (ad 0)), (2, .ref (bd 0)), (3, .ref o), (4, .int (nI (5 * k)))]) hx hb dZ_law_868 hl (by decide) rfl (fun ls hl => ?_)
  refine lv_aload_n (pc := 870) hx hb dZ_law_870 rfl (lv_at hl 3 rfl) ?_
  refine lv_aload_n (pc := 871) hx hb dZ_law_871 rfl (lv_at hl 1 rfl) ?_
  refine lv_iload (pc := 872) hx hb dZ_law_872 (lv_at hl 5 rfl) ?_
  refine lv_iconst (pc := 874) (v := (1 : Int32)) hx hb dZ_law_874 (by decide) ?_
  refine lv_iadd (pc := 875) hx hb dZ_law_875 ?_
  refine va_sld (pc := 876) hx hb hX hbl (Nat.not_le.mpr hbl) hw.2.2.1 (lw_in 1 (by decide) hk hL) dZ_law_876 ?_
  refine j_calliF (pc := 877) (C := mC cb bd) (σ' := τo) (v := w) (gH_mf hw) (fun _ h => h) (va_runV (As := [.int (xs (nI (5 * k) + 1).toNatClampNeg)]) (rest := []) S (kM_cut l D cb bd _ τ (xs (nI (5 * k) + 1).toNatClampNeg) (w, τo) hfm) (cwV 1 S.2.2.2.2 (jgV k_804 k_805 k_806 k_7 k_807) rfl rfl rfl (by decide +kernel) ⟨Nat.le_of_ble_eq_true rfl, Nat.le_of_ble_eq_true rfl⟩) (j_preV (As := [.int (xs (nI (5 * k) + 1).toNatClampNeg)]) (gH_m hw) mN_b (mN_to trivial (gH_m hw) (fun _ h => h)) rfl mg_0) rfl rfl hl.1 rfl (lv_room (Nat.le_of_ble_eq_true rfl)) dZ_law_877 ⟨by show 100 + k + 1 + 0 ≤ 601024; omega, by show 3000 + 6 * k + 6 + 0 ≤ 7293034; omega⟩) (fun H locs hw => ?_)
  have hw := gH_mb hw
  refine lv_istore (pc := 880) (lv' := [(6, .int w), (5, .int (zR ko)), (0, .ref b), (1, .ref (ad 0)), (2, .ref (bd 0)), (3, .ref o), (4, .int (nI (5 * k)))]) hx hb dZ_law_880 hl (by decide) rfl (fun ls hl => ?_)
  refine lv_aload_n (pc := 882) hx hb dZ_law_882 rfl (lv_at hl 4 rfl) ?_
  refine j_cpi (pc := 883) (v := τo 100 0) (va_runV (As := []) (rest := []) S (kM_thrown l D cb bd _ τo (τo 100 0) rfl) (cwV 0 S.2.2.2.2 (jgV k_672 k_673 k_674 k_7 k_675) rfl rfl rfl (by decide +kernel) ⟨Nat.le_of_ble_eq_true rfl, Nat.le_of_ble_eq_true rfl⟩) (j_preV (As := []) (gH_m hw) mN_b (mN_to trivial (gH_m hw) (fun _ h => h)) rfl mg_0) rfl rfl hl.1 rfl (lv_room (Nat.le_of_ble_eq_true rfl)) dZ_law_883 ⟨by show 100 + k + 1 + 0 + 0 ≤ 601024; omega, by show 3000 + 6 * k + 6 + 0 + 0 ≤ 7293034; omega⟩) ?_
  refine lv_iload (pc := 886) hx hb dZ_law_886 (lv_at hl 1 rfl) ?_
  refine lv_icmp_eq (pc := 888) (tgt := 893) hx hb dZ_law_888 (by decide) (fun _ => ?_) (fun h => absurd hth h)
  refine lv_iload (pc := 893) hx hb dZ_law_893 (lv_at hl 1 rfl) ?_
  refine lv_if_ne (pc := 895) (tgt := 910) hx hb dZ_law_895 (by decide) (fun _ => ?_) (fun h0 => ?_)
  · refine lv_goto (pc := 910) (tgt := 1120) hx hb dZ_law_910 (by decide) ?_
    exact cont σo τo (zG ko vo g) _ _ _ _ _ hI2 (lv_sub hl [2, 3, 4, 5, 6] rfl) hw (by omega) (by omega)
  · have hko : ko = 0 := zR_0 h0
    subst hko
    have hv0 := hvw rfl
    subst hv0
    refine lv_aload_n (pc := 898) hx hb dZ_law_898 rfl (lv_at hl 5 rfl) ?_
    refine lv_iconst (pc := 899) (v := (0 : Int32)) hx hb dZ_law_899 (by decide) ?_
    refine va_lald (pc := 900) hx hb hw.2.2.2 hw.1 46 39 (cA := cJ) (n := 1) (f := zG 0 vo g) rfl rfl vp00 dZ_law_900 ?_
    refine lv_iload (pc := 901) hx hb dZ_law_901 (lv_at hl 0 rfl) ?_
    refine lv_i2l (pc := 903) (v := vo.toInt64) hx hb dZ_law_903 rfl ?_
    refine j_lcmp0 (pc := 904) (tgt := 910) hx hb dZ_law_904 dZ_law_905 (by decide) rfl ?_
    refine lv_goto (pc := 910) (tgt := 1120) hx hb dZ_law_910 (by decide) ?_
    exact cont σo τo (zG 0 vo g) _ _ _ _ _ hI2 (lv_sub hl [2, 3, 4, 5, 6] rfl) hw (by omega) (by omega)
set_option maxHeartbeats 4000000 in
set_option maxRecDepth 100000 in
theorem cs_start {p : Program} {l : Launch} {e : Env} {s : State} {m : MethodId} {below : List Frame} {meth : Method} {c : Code} {b L : Nat} {xs : Nat → Int32} {D : va_G} {ca cb : Nat → ClassId} {ad bd : Nat → Nat} {o : Nat} {cJ : ClassId} {Q : State → Prop} (I : JS → JS → Prop) (hl9 : l.stackTraces = false) (S : CallFix p m c code 7 s #[Value.ref b] jall RZ) (hN : xN (gA s) s) (hNc : va_Nc (jE 2) (jE 1) s) (hX : va_X b L xs s s.heap) (hbl : b < s.heap.size) (hL : L ≤ 2560) (k : Nat) (hk : 5 * k + 5 ≤ L)  (ho : jo_start I) (cont : ∀ (σ τ : JS) (g : Nat → Int64) (ls : Array Slot) (H : Heap) (locs : List Loc) (cells slots : Nat), I σ τ → lv_has ls 7 [(0, .ref b), (1, .ref (ad 0)), (2, .ref (bd 0)), (3, .ref o), (4, .int (nI (5 * k)))] → jH D (gT ca cb cJ) (gC ca ad cb bd o cJ σ τ g) (gA s) s.heap H locs s → cells ≤ 101 + k → slots ≤ 3006 + 6 * k → W p l e room_1 s m #[Value.ref b] below meth c H locs cells slots Q (F0 m 1120 ls [])) (σ τ : JS) (g : Nat → Int64) (ls : Array Slot) (H : Heap) (locs : List Loc) (hI : I σ τ) (hl : lv_has ls 7 [(0, .ref b), (1, .ref (ad 0)), (2, .ref (bd 0)), (3, .ref o), (4, .int (nI (5 * k)))]) (hw : jH D (gT ca cb cJ) (gC ca ad cb bd o cJ σ τ g) (gA s) s.heap H locs s) : W p l e room_1 s m #[Value.ref b] below meth c H locs (100 + k) (3000 + 6 * k) Q (F0 m 913 ls []) := by
  have hx := S.1
  have hb := S.2.1
  obtain ⟨ko, vo, σo, w, τo, hfx, hfm, hth, hvw, hk1, hI2⟩ := ho σ τ  hI
  refine lv_aload_n (pc := 913) hx hb dZ_law_913 rfl (lv_at hl 1 rfl) ?_
  refine lv_aload_n (pc := 914) hx hb dZ_law_914 rfl (lv_at hl 3 rfl) ?_
  refine j_callZ (pc := 915) (v := zR1 ko) (σo := σo) (go := zG ko vo g) (gH_lf hw) (fun _ h => h) (j_runSW (n := 2) (As := [.ref (ad 0), .ref o]) (rest := []) (bytes := cZ_start) (maxL := 3) (ret := some .int) (hh := [(0, 8, 11, 15)]) S (kZ_start l hl9 D ca ad o cJ _ σ g  ko vo σo hk1 hfx) rfl rfl (Nat.le_of_ble_eq_true rfl) (Nat.le_of_ble_eq_true rfl) (jgW k_545) List.mem_cons_self (S.2.2.2.2 _ k_0) (S.2.2.2.2 _ k_544) (S.2.2.2.2 _ k_543) (by decide +kernel) (j_preS (N := fun U => xN (va_A (lC ca ad o cJ σ g) H.size) U ∧ va_Nc (jE 2) (jE 1) U) (gH_l hw) (fun U g1 mk a1 h => ⟨xN_b U g1 mk a1 h.1, h.2.moved (Vm.Alike.refl U.vm)⟩) (fun U hU hW => ⟨xN_to hN (gH_l hw) (fun _ h => h) U hU hW, hNc.moved hW.alike⟩)) rfl hl.1 (Nat.le_of_ble_eq_true rfl) dZ_law_915 ⟨by show 100 + k + 1 ≤ 601024; omega, by show 3000 + 6 * k + 6 ≤ 7293034; omega⟩) (fun H locs hw => ?_)
  have hw := gH_lb hw
  refine lv_istore (pc := 918) (lv' := [(5, .int (zR1 ko)), (0, .ref b), (1, .ref (ad 0)), (2, .ref (bd 0)), (3, .ref o), (4, .int (nI (5 * k)))]) hx hb dZ_law_918 hl (by decide) rfl (fun ls hl => ?_)
  refine lv_aload_n (pc := 920) hx hb dZ_law_920 rfl (lv_at hl 3 rfl) ?_
  refine j_calliF (pc := 921) (C := mC cb bd) (σ' := τo) (v := w) (gH_mf hw) (fun _ h => h) (va_runV (As := []) (rest := []) S (kM_start l D cb bd _ τ  (w, τo) hfm) (cwV 0 S.2.2.2.2 (jgV k_808 k_809 k_810 k_7 k_811) rfl rfl rfl (by decide +kernel) ⟨Nat.le_of_ble_eq_true rfl, Nat.le_of_ble_eq_true rfl⟩) (j_preV (As := []) (gH_m hw) mN_b (mN_to trivial (gH_m hw) (fun _ h => h)) rfl mg_0) rfl rfl hl.1 rfl (lv_room (Nat.le_of_ble_eq_true rfl)) dZ_law_921 ⟨by show 100 + k + 1 + 0 ≤ 601024; omega, by show 3000 + 6 * k + 6 + 0 ≤ 7293034; omega⟩) (fun H locs hw => ?_)
  have hw := gH_mb hw
  refine lv_istore (pc := 924) (lv' := [(6, .int w), (5, .int (zR1 ko)), (0, .ref b), (1, .ref (ad 0)), (2, .ref (bd 0)), (3, .ref o), (4, .int (nI (5 * k)))]) hx hb dZ_law_924 hl (by decide) rfl (fun ls hl => ?_)
  refine lv_aload_n (pc := 926) hx hb dZ_law_926 rfl (lv_at hl 4 rfl) ?_
  refine j_cpi (pc := 927) (v := τo 100 0) (va_runV (As := []) (rest := []) S (kM_thrown l D cb bd _ τo (τo 100 0) rfl) (cwV 0 S.2.2.2.2 (jgV k_672 k_673 k_674 k_7 k_675) rfl rfl rfl (by decide +kernel) ⟨Nat.le_of_ble_eq_true rfl, Nat.le_of_ble_eq_true rfl⟩) (j_preV (As := []) (gH_m hw) mN_b (mN_to trivial (gH_m hw) (fun _ h => h)) rfl mg_0) rfl rfl hl.1 rfl (lv_room (Nat.le_of_ble_eq_true rfl)) dZ_law_927 ⟨by show 100 + k + 1 + 0 + 0 ≤ 601024; omega, by show 3000 + 6 * k + 6 + 0 + 0 ≤ 7293034; omega⟩) ?_
  refine lv_iload (pc := 930) hx hb dZ_law_930 (lv_at hl 1 rfl) ?_
  refine lv_icmp_eq (pc := 932) (tgt := 937) hx hb dZ_law_932 (by decide) (fun _ => ?_) (fun h => absurd hth h)
  refine lv_iload (pc := 937) hx hb dZ_law_937 (lv_at hl 1 rfl) ?_
  refine lv_if_ne (pc := 939) (tgt := 954) hx hb dZ_law_939 (by decide) (fun _ => ?_) (fun h0 => ?_)
  · refine lv_goto (pc := 954) (tgt := 1120) hx hb dZ_law_954 (by decide) ?_
    exact cont σo τo (zG ko vo g) _ _ _ _ _ hI2 (lv_sub hl [2, 3, 4, 5, 6] rfl) hw (by omega) (by omega)
  · have hko : ko = 0 := zR1_0 h0
    subst hko
    have hv0 := hvw rfl
    subst hv0
    refine lv_aload_n (pc := 942) hx hb dZ_law_942 rfl (lv_at hl 5 rfl) ?_
    refine lv_iconst (pc := 943) (v := (0 : Int32)) hx hb dZ_law_943 (by decide) ?_
    refine va_lald (pc := 944) hx hb hw.2.2.2 hw.1 46 39 (cA := cJ) (n := 1) (f := zG 0 vo g) rfl rfl vp00 dZ_law_944 ?_
    refine lv_iload (pc := 945) hx hb dZ_law_945 (lv_at hl 0 rfl) ?_
    refine lv_i2l (pc := 947) (v := vo.toInt64) hx hb dZ_law_947 rfl ?_
    refine j_lcmp0 (pc := 948) (tgt := 954) hx hb dZ_law_948 dZ_law_949 (by decide) rfl ?_
    refine lv_goto (pc := 954) (tgt := 1120) hx hb dZ_law_954 (by decide) ?_
    exact cont σo τo (zG 0 vo g) _ _ _ _ _ hI2 (lv_sub hl [2, 3, 4, 5, 6] rfl) hw (by omega) (by omega)
set_option maxHeartbeats 4000000 in
set_option maxRecDepth 100000 in
theorem cs_link {p : Program} {l : Launch} {e : Env} {s : State} {m : MethodId} {below : List Frame} {meth : Method} {c : Code} {b L : Nat} {xs : Nat → Int32} {D : va_G} {ca cb : Nat → ClassId} {ad bd : Nat → Nat} {o : Nat} {cJ : ClassId} {Q : State → Prop} (I : JS → JS → Prop) (hl9 : l.stackTraces = false) (S : CallFix p m c code 7 s #[Value.ref b] jall RZ) (hN : xN (gA s) s) (hNc : va_Nc (jE 2) (jE 1) s) (hX : va_X b L xs s s.heap) (hbl : b < s.heap.size) (hL : L ≤ 2560) (k : Nat) (hk : 5 * k + 5 ≤ L)  (ho : jo_link I) (cont : ∀ (σ τ : JS) (g : Nat → Int64) (ls : Array Slot) (H : Heap) (locs : List Loc) (cells slots : Nat), I σ τ → lv_has ls 7 [(0, .ref b), (1, .ref (ad 0)), (2, .ref (bd 0)), (3, .ref o), (4, .int (nI (5 * k)))] → jH D (gT ca cb cJ) (gC ca ad cb bd o cJ σ τ g) (gA s) s.heap H locs s → cells ≤ 101 + k → slots ≤ 3006 + 6 * k → W p l e room_1 s m #[Value.ref b] below meth c H locs cells slots Q (F0 m 1120 ls [])) (σ τ : JS) (g : Nat → Int64) (ls : Array Slot) (H : Heap) (locs : List Loc) (hI : I σ τ) (hl : lv_has ls 7 [(0, .ref b), (1, .ref (ad 0)), (2, .ref (bd 0)), (3, .ref o), (4, .int (nI (5 * k)))]) (hw : jH D (gT ca cb cJ) (gC ca ad cb bd o cJ σ τ g) (gA s) s.heap H locs s) : W p l e room_1 s m #[Value.ref b] below meth c H locs (100 + k) (3000 + 6 * k) Q (F0 m 957 ls []) := by
  have hx := S.1
  have hb := S.2.1
  obtain ⟨ko, vo, σo, w, τo, hfx, hfm, hth, hvw, hI2⟩ := ho σ τ (xs (nI (5 * k) + 1).toNatClampNeg) (xs (nI (5 * k) + 2).toNatClampNeg) hI
  refine lv_aload_n (pc := 957) hx hb dZ_law_957 rfl (lv_at hl 1 rfl) ?_
  refine lv_aload_n (pc := 958) hx hb dZ_law_958 rfl (lv_at hl 0 rfl) ?_
  refine lv_iload (pc := 959) hx hb dZ_law_959 (lv_at hl 4 rfl) ?_
  refine lv_iconst (pc := 961) (v := (1 : Int32)) hx hb dZ_law_961 (by decide) ?_
  refine lv_iadd (pc := 962) hx hb dZ_law_962 ?_
  refine va_sld (pc := 963) hx hb hX hbl (Nat.not_le.mpr hbl) hw.2.2.1 (lw_in 1 (by decide) hk hL) dZ_law_963 ?_
  refine lv_aload_n (pc := 964) hx hb dZ_law_964 rfl (lv_at hl 0 rfl) ?_
  refine lv_iload (pc := 965) hx hb dZ_law_965 (lv_at hl 4 rfl) ?_
  refine lv_iconst (pc := 967) (v := (2 : Int32)) hx hb dZ_law_967 (by decide) ?_
  refine lv_iadd (pc := 968) hx hb dZ_law_968 ?_
  refine va_sld (pc := 969) hx hb hX hbl (Nat.not_le.mpr hbl) hw.2.2.1 (lw_in 2 (by decide) hk hL) dZ_law_969 ?_
  refine lv_aload_n (pc := 970) hx hb dZ_law_970 rfl (lv_at hl 3 rfl) ?_
  refine j_callZ (pc := 971) (v := zR ko) (σo := σo) (go := zG ko vo g) (gH_lf hw) (fun _ h => h) (j_runSW (n := 4) (As := [.ref (ad 0), .int (xs (nI (5 * k) + 1).toNatClampNeg), .int (xs (nI (5 * k) + 2).toNatClampNeg), .ref o]) (rest := []) (bytes := cZ_link) (maxL := 5) (ret := some .int) (hh := [(0, 10, 13, 13), (0, 10, 17, 15)]) S (kZ_link l hl9 D ca ad o cJ _ σ g (xs (nI (5 * k) + 1).toNatClampNeg) (xs (nI (5 * k) + 2).toNatClampNeg) ko vo σo hfx) rfl rfl (Nat.le_of_ble_eq_true rfl) (Nat.le_of_ble_eq_true rfl) (jgW k_561) List.mem_cons_self (S.2.2.2.2 _ k_0) (S.2.2.2.2 _ k_560) (S.2.2.2.2 _ k_559) (by decide +kernel) (j_preS (N := fun U => xN (va_A (lC ca ad o cJ σ g) H.size) U ∧ va_Nc (jE 2) (jE 1) U) (gH_l hw) (fun U g1 mk a1 h => ⟨xN_b U g1 mk a1 h.1, h.2.moved (Vm.Alike.refl U.vm)⟩) (fun U hU hW => ⟨xN_to hN (gH_l hw) (fun _ h => h) U hU hW, hNc.moved hW.alike⟩)) rfl hl.1 (Nat.le_of_ble_eq_true rfl) dZ_law_971 ⟨by show 100 + k + 1 ≤ 601024; omega, by show 3000 + 6 * k + 6 ≤ 7293034; omega⟩) (fun H locs hw => ?_)
  have hw := gH_lb hw
  refine lv_istore (pc := 974) (lv' := [(5, .int (zR ko)), (0, .ref b), (1, .ref (ad 0)), (2, .ref (bd 0)), (3, .ref o), (4, .int (nI (5 * k)))]) hx hb dZ_law_974 hl (by decide) rfl (fun ls hl => ?_)
  refine lv_aload_n (pc := 976) hx hb dZ_law_976 rfl (lv_at hl 3 rfl) ?_
  refine lv_aload_n (pc := 977) hx hb dZ_law_977 rfl (lv_at hl 1 rfl) ?_
  refine lv_iload (pc := 978) hx hb dZ_law_978 (lv_at hl 5 rfl) ?_
  refine lv_iconst (pc := 980) (v := (1 : Int32)) hx hb dZ_law_980 (by decide) ?_
  refine lv_iadd (pc := 981) hx hb dZ_law_981 ?_
  refine va_sld (pc := 982) hx hb hX hbl (Nat.not_le.mpr hbl) hw.2.2.1 (lw_in 1 (by decide) hk hL) dZ_law_982 ?_
  refine lv_aload_n (pc := 983) hx hb dZ_law_983 rfl (lv_at hl 1 rfl) ?_
  refine lv_iload (pc := 984) hx hb dZ_law_984 (lv_at hl 5 rfl) ?_
  refine lv_iconst (pc := 986) (v := (2 : Int32)) hx hb dZ_law_986 (by decide) ?_
  refine lv_iadd (pc := 987) hx hb dZ_law_987 ?_
  refine va_sld (pc := 988) hx hb hX hbl (Nat.not_le.mpr hbl) hw.2.2.1 (lw_in 2 (by decide) hk hL) dZ_law_988 ?_
  refine j_calliF (pc := 989) (C := mC cb bd) (σ' := τo) (v := w) (gH_mf hw) (fun _ h => h) (va_runV (As := [.int (xs (nI (5 * k) + 1).toNatClampNeg), .int (xs (nI (5 * k) + 2).toNatClampNeg)]) (rest := []) S (kM_link l D cb bd _ τ (xs (nI (5 * k) + 1).toNatClampNeg) (xs (nI (5 * k) + 2).toNatClampNeg) (w, τo) hfm) (cwV 2 S.2.2.2.2 (jgV k_812 k_813 k_814 k_7 k_815) rfl rfl rfl (by decide +kernel) ⟨Nat.le_of_ble_eq_true rfl, Nat.le_of_ble_eq_true rfl⟩) (j_preV (As := [.int (xs (nI (5 * k) + 1).toNatClampNeg), .int (xs (nI (5 * k) + 2).toNatClampNeg)]) (gH_m hw) mN_b (mN_to trivial (gH_m hw) (fun _ h => h)) rfl mg_0) rfl rfl hl.1 rfl (lv_room (Nat.le_of_ble_eq_true rfl)) dZ_law_989 ⟨by show 100 + k + 1 + 0 ≤ 601024; omega, by show 3000 + 6 * k + 6 + 0 ≤ 7293034; omega⟩) (fun H locs hw => ?_)
  have hw := gH_mb hw
  refine lv_istore (pc := 992) (lv' := [(6, .int w), (5, .int (zR ko)), (0, .ref b), (1, .ref (ad 0)), (2, .ref (bd 0)), (3, .ref o), (4, .int (nI (5 * k)))]) hx hb dZ_law_992 hl (by decide) rfl (fun ls hl => ?_)
  refine lv_aload_n (pc := 994) hx hb dZ_law_994 rfl (lv_at hl 4 rfl) ?_
  refine j_cpi (pc := 995) (v := τo 100 0) (va_runV (As := []) (rest := []) S (kM_thrown l D cb bd _ τo (τo 100 0) rfl) (cwV 0 S.2.2.2.2 (jgV k_672 k_673 k_674 k_7 k_675) rfl rfl rfl (by decide +kernel) ⟨Nat.le_of_ble_eq_true rfl, Nat.le_of_ble_eq_true rfl⟩) (j_preV (As := []) (gH_m hw) mN_b (mN_to trivial (gH_m hw) (fun _ h => h)) rfl mg_0) rfl rfl hl.1 rfl (lv_room (Nat.le_of_ble_eq_true rfl)) dZ_law_995 ⟨by show 100 + k + 1 + 0 + 0 ≤ 601024; omega, by show 3000 + 6 * k + 6 + 0 + 0 ≤ 7293034; omega⟩) ?_
  refine lv_iload (pc := 998) hx hb dZ_law_998 (lv_at hl 1 rfl) ?_
  refine lv_icmp_eq (pc := 1000) (tgt := 1005) hx hb dZ_law_1000 (by decide) (fun _ => ?_) (fun h => absurd hth h)
  refine lv_iload (pc := 1005) hx hb dZ_law_1005 (lv_at hl 1 rfl) ?_
  refine lv_if_ne (pc := 1007) (tgt := 1022) hx hb dZ_law_1007 (by decide) (fun _ => ?_) (fun h0 => ?_)
  · refine lv_goto (pc := 1022) (tgt := 1120) hx hb dZ_law_1022 (by decide) ?_
    exact cont σo τo (zG ko vo g) _ _ _ _ _ hI2 (lv_sub hl [2, 3, 4, 5, 6] rfl) hw (by omega) (by omega)
  · have hko : ko = 0 := zR_0 h0
    subst hko
    have hv0 := hvw rfl
    subst hv0
    refine lv_aload_n (pc := 1010) hx hb dZ_law_1010 rfl (lv_at hl 5 rfl) ?_
    refine lv_iconst (pc := 1011) (v := (0 : Int32)) hx hb dZ_law_1011 (by decide) ?_
    refine va_lald (pc := 1012) hx hb hw.2.2.2 hw.1 46 39 (cA := cJ) (n := 1) (f := zG 0 vo g) rfl rfl vp00 dZ_law_1012 ?_
    refine lv_iload (pc := 1013) hx hb dZ_law_1013 (lv_at hl 0 rfl) ?_
    refine lv_i2l (pc := 1015) (v := vo.toInt64) hx hb dZ_law_1015 rfl ?_
    refine j_lcmp0 (pc := 1016) (tgt := 1022) hx hb dZ_law_1016 dZ_law_1017 (by decide) rfl ?_
    refine lv_goto (pc := 1022) (tgt := 1120) hx hb dZ_law_1022 (by decide) ?_
    exact cont σo τo (zG 0 vo g) _ _ _ _ _ hI2 (lv_sub hl [2, 3, 4, 5, 6] rfl) hw (by omega) (by omega)
set_option maxHeartbeats 4000000 in
set_option maxRecDepth 100000 in
theorem cs_ack {p : Program} {l : Launch} {e : Env} {s : State} {m : MethodId} {below : List Frame} {meth : Method} {c : Code} {b L : Nat} {xs : Nat → Int32} {D : va_G} {ca cb : Nat → ClassId} {ad bd : Nat → Nat} {o : Nat} {cJ : ClassId} {Q : State → Prop} (I : JS → JS → Prop) (hl9 : l.stackTraces = false) (S : CallFix p m c code 7 s #[Value.ref b] jall RZ) (hN : xN (gA s) s) (hNc : va_Nc (jE 2) (jE 1) s) (hX : va_X b L xs s s.heap) (hbl : b < s.heap.size) (hL : L ≤ 2560) (k : Nat) (hk : 5 * k + 5 ≤ L)  (ho : jo_ack I) (cont : ∀ (σ τ : JS) (g : Nat → Int64) (ls : Array Slot) (H : Heap) (locs : List Loc) (cells slots : Nat), I σ τ → lv_has ls 7 [(0, .ref b), (1, .ref (ad 0)), (2, .ref (bd 0)), (3, .ref o), (4, .int (nI (5 * k)))] → jH D (gT ca cb cJ) (gC ca ad cb bd o cJ σ τ g) (gA s) s.heap H locs s → cells ≤ 101 + k → slots ≤ 3006 + 6 * k → W p l e room_1 s m #[Value.ref b] below meth c H locs cells slots Q (F0 m 1120 ls [])) (σ τ : JS) (g : Nat → Int64) (ls : Array Slot) (H : Heap) (locs : List Loc) (hI : I σ τ) (hl : lv_has ls 7 [(0, .ref b), (1, .ref (ad 0)), (2, .ref (bd 0)), (3, .ref o), (4, .int (nI (5 * k)))]) (hw : jH D (gT ca cb cJ) (gC ca ad cb bd o cJ σ τ g) (gA s) s.heap H locs s) : W p l e room_1 s m #[Value.ref b] below meth c H locs (100 + k) (3000 + 6 * k) Q (F0 m 1025 ls []) := by
  have hx := S.1
  have hb := S.2.1
  obtain ⟨ko, vo, σo, w, τo, hfx, hfm, hth, hvw, hk1, hI2⟩ := ho σ τ  hI
  refine lv_aload_n (pc := 1025) hx hb dZ_law_1025 rfl (lv_at hl 1 rfl) ?_
  refine lv_aload_n (pc := 1026) hx hb dZ_law_1026 rfl (lv_at hl 3 rfl) ?_
  refine j_callZ (pc := 1027) (v := zR1 ko) (σo := σo) (go := zG ko vo g) (gH_lf hw) (fun _ h => h) (j_runSW (n := 2) (As := [.ref (ad 0), .ref o]) (rest := []) (bytes := cZ_ack) (maxL := 3) (ret := some .int) (hh := [(0, 8, 11, 15)]) S (kZ_ack l hl9 D ca ad o cJ _ σ g  ko vo σo hk1 hfx) rfl rfl (Nat.le_of_ble_eq_true rfl) (Nat.le_of_ble_eq_true rfl) (jgW k_585) List.mem_cons_self (S.2.2.2.2 _ k_0) (S.2.2.2.2 _ k_584) (S.2.2.2.2 _ k_583) (by decide +kernel) (j_preS (N := fun U => xN (va_A (lC ca ad o cJ σ g) H.size) U ∧ va_Nc (jE 2) (jE 1) U) (gH_l hw) (fun U g1 mk a1 h => ⟨xN_b U g1 mk a1 h.1, h.2.moved (Vm.Alike.refl U.vm)⟩) (fun U hU hW => ⟨xN_to hN (gH_l hw) (fun _ h => h) U hU hW, hNc.moved hW.alike⟩)) rfl hl.1 (Nat.le_of_ble_eq_true rfl) dZ_law_1027 ⟨by show 100 + k + 1 ≤ 601024; omega, by show 3000 + 6 * k + 6 ≤ 7293034; omega⟩) (fun H locs hw => ?_)
  have hw := gH_lb hw
  refine lv_istore (pc := 1030) (lv' := [(5, .int (zR1 ko)), (0, .ref b), (1, .ref (ad 0)), (2, .ref (bd 0)), (3, .ref o), (4, .int (nI (5 * k)))]) hx hb dZ_law_1030 hl (by decide) rfl (fun ls hl => ?_)
  refine lv_aload_n (pc := 1032) hx hb dZ_law_1032 rfl (lv_at hl 3 rfl) ?_
  refine j_calliF (pc := 1033) (C := mC cb bd) (σ' := τo) (v := w) (gH_mf hw) (fun _ h => h) (va_runV (As := []) (rest := []) S (kM_ack l D cb bd _ τ  (w, τo) hfm) (cwV 0 S.2.2.2.2 (jgV k_816 k_817 k_818 k_7 k_819) rfl rfl rfl (by decide +kernel) ⟨Nat.le_of_ble_eq_true rfl, Nat.le_of_ble_eq_true rfl⟩) (j_preV (As := []) (gH_m hw) mN_b (mN_to trivial (gH_m hw) (fun _ h => h)) rfl mg_0) rfl rfl hl.1 rfl (lv_room (Nat.le_of_ble_eq_true rfl)) dZ_law_1033 ⟨by show 100 + k + 1 + 0 ≤ 601024; omega, by show 3000 + 6 * k + 6 + 0 ≤ 7293034; omega⟩) (fun H locs hw => ?_)
  have hw := gH_mb hw
  refine lv_istore (pc := 1036) (lv' := [(6, .int w), (5, .int (zR1 ko)), (0, .ref b), (1, .ref (ad 0)), (2, .ref (bd 0)), (3, .ref o), (4, .int (nI (5 * k)))]) hx hb dZ_law_1036 hl (by decide) rfl (fun ls hl => ?_)
  refine lv_aload_n (pc := 1038) hx hb dZ_law_1038 rfl (lv_at hl 4 rfl) ?_
  refine j_cpi (pc := 1039) (v := τo 100 0) (va_runV (As := []) (rest := []) S (kM_thrown l D cb bd _ τo (τo 100 0) rfl) (cwV 0 S.2.2.2.2 (jgV k_672 k_673 k_674 k_7 k_675) rfl rfl rfl (by decide +kernel) ⟨Nat.le_of_ble_eq_true rfl, Nat.le_of_ble_eq_true rfl⟩) (j_preV (As := []) (gH_m hw) mN_b (mN_to trivial (gH_m hw) (fun _ h => h)) rfl mg_0) rfl rfl hl.1 rfl (lv_room (Nat.le_of_ble_eq_true rfl)) dZ_law_1039 ⟨by show 100 + k + 1 + 0 + 0 ≤ 601024; omega, by show 3000 + 6 * k + 6 + 0 + 0 ≤ 7293034; omega⟩) ?_
  refine lv_iload (pc := 1042) hx hb dZ_law_1042 (lv_at hl 1 rfl) ?_
  refine lv_icmp_eq (pc := 1044) (tgt := 1049) hx hb dZ_law_1044 (by decide) (fun _ => ?_) (fun h => absurd hth h)
  refine lv_iload (pc := 1049) hx hb dZ_law_1049 (lv_at hl 1 rfl) ?_
  refine lv_if_ne (pc := 1051) (tgt := 1066) hx hb dZ_law_1051 (by decide) (fun _ => ?_) (fun h0 => ?_)
  · refine lv_goto (pc := 1066) (tgt := 1120) hx hb dZ_law_1066 (by decide) ?_
    exact cont σo τo (zG ko vo g) _ _ _ _ _ hI2 (lv_sub hl [2, 3, 4, 5, 6] rfl) hw (by omega) (by omega)
  · have hko : ko = 0 := zR1_0 h0
    subst hko
    have hv0 := hvw rfl
    subst hv0
    refine lv_aload_n (pc := 1054) hx hb dZ_law_1054 rfl (lv_at hl 5 rfl) ?_
    refine lv_iconst (pc := 1055) (v := (0 : Int32)) hx hb dZ_law_1055 (by decide) ?_
    refine va_lald (pc := 1056) hx hb hw.2.2.2 hw.1 46 39 (cA := cJ) (n := 1) (f := zG 0 vo g) rfl rfl vp00 dZ_law_1056 ?_
    refine lv_iload (pc := 1057) hx hb dZ_law_1057 (lv_at hl 0 rfl) ?_
    refine lv_i2l (pc := 1059) (v := vo.toInt64) hx hb dZ_law_1059 rfl ?_
    refine j_lcmp0 (pc := 1060) (tgt := 1066) hx hb dZ_law_1060 dZ_law_1061 (by decide) rfl ?_
    refine lv_goto (pc := 1066) (tgt := 1120) hx hb dZ_law_1066 (by decide) ?_
    exact cont σo τo (zG 0 vo g) _ _ _ _ _ hI2 (lv_sub hl [2, 3, 4, 5, 6] rfl) hw (by omega) (by omega)
set_option maxHeartbeats 4000000 in
set_option maxRecDepth 100000 in
theorem cs_takeOver {p : Program} {l : Launch} {e : Env} {s : State} {m : MethodId} {below : List Frame} {meth : Method} {c : Code} {b L : Nat} {xs : Nat → Int32} {D : va_G} {ca cb : Nat → ClassId} {ad bd : Nat → Nat} {o : Nat} {cJ : ClassId} {Q : State → Prop} (I : JS → JS → Prop) (hl9 : l.stackTraces = false) (S : CallFix p m c code 7 s #[Value.ref b] jall RZ) (hN : xN (gA s) s) (hNc : va_Nc (jE 2) (jE 1) s) (hX : va_X b L xs s s.heap) (hbl : b < s.heap.size) (hL : L ≤ 2560) (k : Nat) (hk : 5 * k + 5 ≤ L)  (ho : jo_takeOver I) (cont : ∀ (σ τ : JS) (g : Nat → Int64) (ls : Array Slot) (H : Heap) (locs : List Loc) (cells slots : Nat), I σ τ → lv_has ls 7 [(0, .ref b), (1, .ref (ad 0)), (2, .ref (bd 0)), (3, .ref o), (4, .int (nI (5 * k)))] → jH D (gT ca cb cJ) (gC ca ad cb bd o cJ σ τ g) (gA s) s.heap H locs s → cells ≤ 101 + k → slots ≤ 3006 + 6 * k → W p l e room_1 s m #[Value.ref b] below meth c H locs cells slots Q (F0 m 1120 ls [])) (σ τ : JS) (g : Nat → Int64) (ls : Array Slot) (H : Heap) (locs : List Loc) (hI : I σ τ) (hl : lv_has ls 7 [(0, .ref b), (1, .ref (ad 0)), (2, .ref (bd 0)), (3, .ref o), (4, .int (nI (5 * k)))]) (hw : jH D (gT ca cb cJ) (gC ca ad cb bd o cJ σ τ g) (gA s) s.heap H locs s) : W p l e room_1 s m #[Value.ref b] below meth c H locs (100 + k) (3000 + 6 * k) Q (F0 m 1069 ls []) := by
  have hx := S.1
  have hb := S.2.1
  obtain ⟨v, σo, τo, hfx, hfm, hI2⟩ := ho σ τ hI
  refine lv_aload_n (pc := 1069) hx hb dZ_law_1069 rfl (lv_at hl 1 rfl) ?_
  refine j_calliF (pc := 1070) (C := xC ca ad) (σ' := σo) (v := v) hw (fun _ h => h) (va_runV (As := []) (rest := []) S (kH_takeOver l D ca ad _ σ  (v, σo) hfx) (cwV 0 S.2.2.2.2 (jgV k_257 k_258 k_259 k_1 k_260) rfl rfl rfl (by decide +kernel) ⟨Nat.le_of_ble_eq_true rfl, Nat.le_of_ble_eq_true rfl⟩) (j_preV (As := []) (gH_x hw) xN_b (xN_to hN (gH_x hw) (fun _ h => h)) rfl xg_0) rfl rfl hl.1 rfl (lv_room (Nat.le_of_ble_eq_true rfl)) dZ_law_1070 ⟨by show 100 + k + 1 ≤ 601024; omega, by show 3000 + 6 * k + 4 ≤ 7293034; omega⟩) (fun H locs hw => ?_)
  have hw : jH D (gT ca cb cJ) (gC ca ad cb bd o cJ σo τ g) (gA s) s.heap H locs s := hw
  refine lv_aload_n (pc := 1073) hx hb dZ_law_1073 rfl (lv_at hl 2 rfl) ?_
  refine j_calliF (pc := 1074) (C := mC cb bd) (σ' := τo) (v := v) (gH_mf hw) (fun _ h => h) (va_runV (As := []) (rest := [.int v]) S (kM_takeOver l D cb bd _ τ  (v, τo) hfm) (cwV 0 S.2.2.2.2 (jgV k_820 k_821 k_822 k_7 k_823) rfl rfl rfl (by decide +kernel) ⟨Nat.le_of_ble_eq_true rfl, Nat.le_of_ble_eq_true rfl⟩) (j_preV (As := []) (gH_m hw) mN_b (mN_to trivial (gH_m hw) (fun _ h => h)) rfl mg_0) rfl rfl hl.1 rfl (lv_room (Nat.le_of_ble_eq_true rfl)) dZ_law_1074 ⟨by show 100 + k + 1 + 0 ≤ 601024; omega, by show 3000 + 6 * k + 4 + 0 ≤ 7293034; omega⟩) (fun H locs hw => ?_)
  have hw := gH_mb hw
  refine lv_icmp_eq (pc := 1077) (tgt := 1120) hx hb dZ_law_1077 (by decide) (fun _ => ?_) (fun h => absurd rfl h)
  exact cont σo τo g _ _ _ _ _ hI2 hl hw (by omega) (by omega)
set_option maxHeartbeats 4000000 in
set_option maxRecDepth 100000 in
theorem cs_remote {p : Program} {l : Launch} {e : Env} {s : State} {m : MethodId} {below : List Frame} {meth : Method} {c : Code} {b L : Nat} {xs : Nat → Int32} {D : va_G} {ca cb : Nat → ClassId} {ad bd : Nat → Nat} {o : Nat} {cJ : ClassId} {Q : State → Prop} (I : JS → JS → Prop) (hl9 : l.stackTraces = false) (S : CallFix p m c code 7 s #[Value.ref b] jall RZ) (hN : xN (gA s) s) (hNc : va_Nc (jE 2) (jE 1) s) (hX : va_X b L xs s s.heap) (hbl : b < s.heap.size) (hL : L ≤ 2560) (k : Nat) (hk : 5 * k + 5 ≤ L)  (ho : jo_remote I) (cont : ∀ (σ τ : JS) (g : Nat → Int64) (ls : Array Slot) (H : Heap) (locs : List Loc) (cells slots : Nat), I σ τ → lv_has ls 7 [(0, .ref b), (1, .ref (ad 0)), (2, .ref (bd 0)), (3, .ref o), (4, .int (nI (5 * k)))] → jH D (gT ca cb cJ) (gC ca ad cb bd o cJ σ τ g) (gA s) s.heap H locs s → cells ≤ 101 + k → slots ≤ 3006 + 6 * k → W p l e room_1 s m #[Value.ref b] below meth c H locs cells slots Q (F0 m 1120 ls [])) (σ τ : JS) (g : Nat → Int64) (ls : Array Slot) (H : Heap) (locs : List Loc) (hI : I σ τ) (hl : lv_has ls 7 [(0, .ref b), (1, .ref (ad 0)), (2, .ref (bd 0)), (3, .ref o), (4, .int (nI (5 * k)))]) (hw : jH D (gT ca cb cJ) (gC ca ad cb bd o cJ σ τ g) (gA s) s.heap H locs s) : W p l e room_1 s m #[Value.ref b] below meth c H locs (100 + k) (3000 + 6 * k) Q (F0 m 1082 ls []) := by
  have hx := S.1
  have hb := S.2.1
  obtain ⟨v, τo, hfx, hfm, hI2⟩ := ho σ τ (xs (nI (5 * k) + 1).toNatClampNeg) (xs (nI (5 * k) + 2).toNatClampNeg) hI
  refine lv_aload_n (pc := 1082) hx hb dZ_law_1082 rfl (lv_at hl 1 rfl) ?_
  refine lv_aload_n (pc := 1083) hx hb dZ_law_1083 rfl (lv_at hl 0 rfl) ?_
  refine lv_iload (pc := 1084) hx hb dZ_law_1084 (lv_at hl 4 rfl) ?_
  refine lv_iconst (pc := 1086) (v := (1 : Int32)) hx hb dZ_law_1086 (by decide) ?_
  refine lv_iadd (pc := 1087) hx hb dZ_law_1087 ?_
  refine va_sld (pc := 1088) hx hb hX hbl (Nat.not_le.mpr hbl) hw.2.2.1 (lw_in 1 (by decide) hk hL) dZ_law_1088 ?_
  refine lv_aload_n (pc := 1089) hx hb dZ_law_1089 rfl (lv_at hl 0 rfl) ?_
  refine lv_iload (pc := 1090) hx hb dZ_law_1090 (lv_at hl 4 rfl) ?_
  refine lv_iconst (pc := 1092) (v := (2 : Int32)) hx hb dZ_law_1092 (by decide) ?_
  refine lv_iadd (pc := 1093) hx hb dZ_law_1093 ?_
  refine va_sld (pc := 1094) hx hb hX hbl (Nat.not_le.mpr hbl) hw.2.2.1 (lw_in 2 (by decide) hk hL) dZ_law_1094 ?_
  refine j_cpl (pc := 1095) (v := v) (va_runV (As := [.int (xs (nI (5 * k) + 1).toNatClampNeg), .int (xs (nI (5 * k) + 2).toNatClampNeg)]) (rest := []) S (kH_remote l D ca ad _ σ (xs (nI (5 * k) + 1).toNatClampNeg) (xs (nI (5 * k) + 2).toNatClampNeg) v hfx) (cwV 2 S.2.2.2.2 (jgV k_265 k_266 k_267 k_1 k_268) rfl rfl rfl (by decide +kernel) ⟨Nat.le_of_ble_eq_true rfl, Nat.le_of_ble_eq_true rfl⟩) (j_preV (As := [.int (xs (nI (5 * k) + 1).toNatClampNeg), .int (xs (nI (5 * k) + 2).toNatClampNeg)]) (gH_x hw) xN_b (xN_to hN (gH_x hw) (fun _ h => h)) rfl xg_0) rfl rfl hl.1 rfl (lv_room (Nat.le_of_ble_eq_true rfl)) dZ_law_1095 ⟨by show 100 + k + 0 ≤ 601024; omega, by show 3000 + 6 * k + 0 ≤ 7293034; omega⟩) ?_
  refine lv_aload_n (pc := 1098) hx hb dZ_law_1098 rfl (lv_at hl 2 rfl) ?_
  refine lv_aload_n (pc := 1099) hx hb dZ_law_1099 rfl (lv_at hl 0 rfl) ?_
  refine lv_iload (pc := 1100) hx hb dZ_law_1100 (lv_at hl 4 rfl) ?_
  refine lv_iconst (pc := 1102) (v := (1 : Int32)) hx hb dZ_law_1102 (by decide) ?_
  refine lv_iadd (pc := 1103) hx hb dZ_law_1103 ?_
  refine va_sld (pc := 1104) hx hb hX hbl (Nat.not_le.mpr hbl) hw.2.2.1 (lw_in 1 (by decide) hk hL) dZ_law_1104 ?_
  refine lv_aload_n (pc := 1105) hx hb dZ_law_1105 rfl (lv_at hl 0 rfl) ?_
  refine lv_iload (pc := 1106) hx hb dZ_law_1106 (lv_at hl 4 rfl) ?_
  refine lv_iconst (pc := 1108) (v := (2 : Int32)) hx hb dZ_law_1108 (by decide) ?_
  refine lv_iadd (pc := 1109) hx hb dZ_law_1109 ?_
  refine va_sld (pc := 1110) hx hb hX hbl (Nat.not_le.mpr hbl) hw.2.2.1 (lw_in 2 (by decide) hk hL) dZ_law_1110 ?_
  refine j_calllF (pc := 1111) (C := mC cb bd) (σ' := τo) (v := v) (gH_mf hw) (fun _ h => h) (va_runV (As := [.int (xs (nI (5 * k) + 1).toNatClampNeg), .int (xs (nI (5 * k) + 2).toNatClampNeg)]) (rest := [.long v]) S (kM_remote l D cb bd _ τ (xs (nI (5 * k) + 1).toNatClampNeg) (xs (nI (5 * k) + 2).toNatClampNeg) (v, τo) hfm) (cwV 2 S.2.2.2.2 (jgV k_824 k_825 k_826 k_7 k_827) rfl rfl rfl (by decide +kernel) ⟨Nat.le_of_ble_eq_true rfl, Nat.le_of_ble_eq_true rfl⟩) (j_preV (As := [.int (xs (nI (5 * k) + 1).toNatClampNeg), .int (xs (nI (5 * k) + 2).toNatClampNeg)]) (gH_m hw) mN_b (mN_to trivial (gH_m hw) (fun _ h => h)) rfl mg_0) rfl rfl hl.1 rfl (lv_room (Nat.le_of_ble_eq_true rfl)) dZ_law_1111 ⟨by show 100 + k + 0 ≤ 601024; omega, by show 3000 + 6 * k + 0 ≤ 7293034; omega⟩) (fun H locs hw => ?_)
  have hw := gH_mb hw
  refine j_lcmp0 (pc := 1114) (tgt := 1120) hx hb dZ_law_1114 dZ_law_1115 (by decide) rfl ?_
  exact cont σ τo g _ _ _ _ _ hI2 hl hw (by omega) (by omega)
