def rmM_change : Room := { frames := 3, cells := 0, slots := 0, locals := 74 }
def mM_change_J53 (σ : JS) (x1 : Int32) (x2 : Int32) (x3 : Int32) (x4 : Int32) (y0 : Int32) (y1 : Int32) : Option (Int32 × JS) :=
  if (σ 100 5) = 0 then
  (jbn (mM_isLocked σ x1 x2 x3) fun q11 =>
  if q11 = 0 then
  (jbn (mM_room σ ) fun q15 =>
  if (y1 + y0) ≤ (q15 - (1 : Int32)) then
  (jwr σ 2 3 x2 (-1 : Int32) fun σ17 =>
  jbn (mM_put σ17 x1 x2 x3 x4) fun q20 =>
  some ((q20 100 2), q20))
  else
  (jbn (mM_refuse σ (2 : Int32)) fun q22 =>
  some (q22.1, q22.2)))
  else
  (jbn (mM_refuse σ (2 : Int32)) fun q13 =>
  some (q13.1, q13.2)))
  else
  (jbn (mM_refuse σ (2 : Int32)) fun q9 =>
  some (q9.1, q9.2))
def mM_change_J24 (σ : JS) (x1 : Int32) (x2 : Int32) (x3 : Int32) (x4 : Int32) (y0 : Int32) : Option (Int32 × JS) :=
  jst (jw2 σ 100 0 y0) fun σ3 =>
  if (σ3 100 0) ≤ 0 then
  (jbn (mM_reserve σ3 ) fun q5 =>
  jbn (mM_changesOf σ3 x1) fun q7 =>
  if q7 ≤ 0 then
  (mM_change_J53 σ3 x1 x2 x3 x4 (2 : Int32) q5)
  else
  (mM_change_J53 σ3 x1 x2 x3 x4 (1 : Int32) q5))
  else
  (some ((0 : Int32), σ3))
def mM_change_J23 (σ : JS) (x1 : Int32) (x2 : Int32) (x3 : Int32) (x4 : Int32) : Option (Int32 × JS) :=
  mM_change_J24 σ x1 x2 x3 x4 (1 : Int32)
def mM_change (σ : JS) (x1 : Int32) (x2 : Int32) (x3 : Int32) (x4 : Int32) : Option (Int32 × JS) :=
  jbn (mM_within σ x1 (0 : Int32) (2 : Int32)) fun q1 =>
  if q1 = 0 then
  (mM_change_J23 σ x1 x2 x3 x4)
  else
  (jbn (mM_isRecord σ x2 x3) fun q24 =>
  if q24 = 0 then
  (mM_change_J23 σ x1 x2 x3 x4)
  else
  (mM_change_J24 σ x1 x2 x3 x4 (0 : Int32)))
set_option maxHeartbeats 4000000 in
set_option maxRecDepth 100000 in
theorem wmM_change_J53g {p : Program} {l : Launch} {e : Env} {s : State} {m : MethodId} {args : Array Value} {below : List Frame} {meth : Method} {c : Code} {D : va_G} {ca : Nat → ClassId} {ad : Nat → Nat} {A : Nat → Prop} (hA : ∀ q, s.heap.size ≤ q → A q) (S : CallFix p m c cM_change 6 s args jall RM) (hN : mN A s) (hr : meth.sig.returnType = some .int) (hlk : meth.locks = false) (out : Int32 × JS) (σ : JS) (x1 : Int32) (x2 : Int32) (x3 : Int32) (x4 : Int32) (y0 : Int32) (y1 : Int32) (ls : Array Slot) (H : Heap) (locs : List Loc) (hl : lv_has ls 6 [(0, .ref (ad 0)), (1, .int x1), (2, .int x2), (3, .int x3), (4, .int x4)]) (hw : jH D (mT ca) (mC ca ad σ) A s.heap H locs s) (hf : mM_change_J53 σ x1 x2 x3 x4 y0 y1 = some out) : W p l e (headSpec wsM_change rmM_change).room s m args below meth c H locs 0 0 (MQ below (jQi D (mT ca) (mC ca ad) A out.1 out.2) args s 0 0 A) (F0 m 53 ls [.int y0, .int y1]) := by
  have hx := S.1
  have hb := S.2.1
  unfold mM_change_J53 at hf
  refine lv_iadd (pc := 53) hx hb dM_change_53 ?_
  refine lv_istore (pc := 54) (lv' := [(5, .int (y1 + y0)), (0, .ref (ad 0)), (1, .int x1), (2, .int x2), (3, .int x3), (4, .int x4)]) hx hb dM_change_54 hl (by decide) rfl (fun ls hl => ?_)
  refine lv_aload_n (pc := 56) hx hb dM_change_56 rfl (lv_at hl 1 rfl) ?_
  refine j_get (pc := 57) (v := .int (σ 100 5)) S hw inM 0 6 8 mg_0 rfl (by decide) k_604 rfl dM_change_57 ?_
  refine lv_if_ne (pc := 60) (tgt := 84) hx hb dM_change_60 (by decide) (fun hc => ?_) (fun hc => ?_)
  · replace hf := jif hf hc
    refine lv_aload_n (pc := 84) hx hb dM_change_84 rfl (lv_at hl 1 rfl) ?_
    refine lv_iconst (pc := 85) (v := (2 : Int32)) hx hb dM_change_85 (by decide) ?_
    have hg := jbn_e hf; clear hf; obtain ⟨q9, h10, hf⟩ := hg
    refine j_calli (pc := 86) (C := mC ca ad) (σ' := q9.2) (v := q9.1) hw hA (va_runV (As := [.int (2 : Int32)]) (rest := []) S (kM_refuse l D ca ad _ σ (2 : Int32) q9 h10) (cwV 1 S.2.2.2.2 (jgV k_715 k_717 ks_25 k_7 k_718) rfl rfl rfl (by decide +kernel) ⟨Nat.le_of_ble_eq_true rfl, Nat.le_of_ble_eq_true rfl⟩) (j_preV (As := [.int (2 : Int32)]) hw mN_b (mN_to hN hw hA) rfl mg_0) rfl rfl hl.1 rfl (lv_room (Nat.le_of_ble_eq_true rfl)) dM_change_86 ⟨Nat.le_of_ble_eq_true rfl, Nat.le_of_ble_eq_true rfl⟩) (fun H locs hw => ?_)
    obtain rfl := jsm hf
    exact j_iret (pc := 89) S hw hr hlk dM_change_89
  · replace hf := jit hf hc
    refine lv_aload_n (pc := 63) hx hb dM_change_63 rfl (lv_at hl 1 rfl) ?_
    refine lv_iload_n (pc := 64) hx hb dM_change_64 rfl (lv_at hl 2 rfl) ?_
    refine lv_iload_n (pc := 65) hx hb dM_change_65 rfl (lv_at hl 3 rfl) ?_
    refine lv_iload_n (pc := 66) hx hb dM_change_66 rfl (lv_at hl 4 rfl) ?_
    have hg := jbn_e hf; clear hf; obtain ⟨q11, h12, hf⟩ := hg
    refine j_cpi (pc := 67) (v := q11) (va_runV (As := [.int x1, .int x2, .int x3]) (rest := []) S (kM_isLocked l D ca ad _ σ x1 x2 x3 q11 h12) (cwV 3 S.2.2.2.2 (jgV k_707 k_709 ks_26 k_7 k_710) rfl rfl rfl (by decide +kernel) ⟨Nat.le_of_ble_eq_true rfl, Nat.le_of_ble_eq_true rfl⟩) (j_preV (As := [.int x1, .int x2, .int x3]) hw mN_b (mN_to hN hw hA) rfl mg_0) rfl rfl hl.1 rfl (lv_room (Nat.le_of_ble_eq_true rfl)) dM_change_67 ⟨Nat.le_of_ble_eq_true rfl, Nat.le_of_ble_eq_true rfl⟩) ?_
    refine lv_if_ne (pc := 70) (tgt := 84) hx hb dM_change_70 (by decide) (fun hc => ?_) (fun hc => ?_)
    · replace hf := jif hf hc
      refine lv_aload_n (pc := 84) hx hb dM_change_84 rfl (lv_at hl 1 rfl) ?_
      refine lv_iconst (pc := 85) (v := (2 : Int32)) hx hb dM_change_85 (by decide) ?_
      have hg := jbn_e hf; clear hf; obtain ⟨q13, h14, hf⟩ := hg
      refine j_calli (pc := 86) (C := mC ca ad) (σ' := q13.2) (v := q13.1) hw hA (va_runV (As := [.int (2 : Int32)]) (rest := []) S (kM_refuse l D ca ad _ σ (2 : Int32) q13 h14) (cwV 1 S.2.2.2.2 (jgV k_715 k_717 ks_25 k_7 k_718) rfl rfl rfl (by decide +kernel) ⟨Nat.le_of_ble_eq_true rfl, Nat.le_of_ble_eq_true rfl⟩) (j_preV (As := [.int (2 : Int32)]) hw mN_b (mN_to hN hw hA) rfl mg_0) rfl rfl hl.1 rfl (lv_room (Nat.le_of_ble_eq_true rfl)) dM_change_86 ⟨Nat.le_of_ble_eq_true rfl, Nat.le_of_ble_eq_true rfl⟩) (fun H locs hw => ?_)
      obtain rfl := jsm hf
      exact j_iret (pc := 89) S hw hr hlk dM_change_89
    · replace hf := jit hf hc
      refine lv_aload_n (pc := 73) hx hb dM_change_73 rfl (lv_at hl 1 rfl) ?_
      have hg := jbn_e hf; clear hf; obtain ⟨q15, h16, hf⟩ := hg
      refine j_cpi (pc := 74) (v := q15) (va_runV (As := []) (rest := []) S (kM_room l D ca ad _ σ  q15 h16) (cwV 0 S.2.2.2.2 (jgV k_711 k_713 ks_27 k_7 k_714) rfl rfl rfl (by decide +kernel) ⟨Nat.le_of_ble_eq_true rfl, Nat.le_of_ble_eq_true rfl⟩) (j_preV (As := []) hw mN_b (mN_to hN hw hA) rfl mg_0) rfl rfl hl.1 rfl (lv_room (Nat.le_of_ble_eq_true rfl)) dM_change_74 ⟨Nat.le_of_ble_eq_true rfl, Nat.le_of_ble_eq_true rfl⟩) ?_
      refine lv_iconst (pc := 77) (v := (1 : Int32)) hx hb dM_change_77 (by decide) ?_
      refine lv_isub (pc := 78) hx hb dM_change_78 ?_
      refine lv_iload (pc := 79) hx hb dM_change_79 (lv_at hl 0 rfl) ?_
      refine lv_icmp_ge (pc := 81) (tgt := 90) hx hb dM_change_81 (by decide) (fun hc => ?_) (fun hc => ?_)
      · replace hf := jit hf hc
        refine lv_aload_n (pc := 90) hx hb dM_change_90 rfl (lv_at hl 1 rfl) ?_
        refine j_get (pc := 91) (v := .ref (ad 2)) S hw inM 0 6 3 mg_0 rfl (by decide) k_599 rfl dM_change_91 ?_
        refine lv_iload_n (pc := 94) hx hb dM_change_94 rfl (lv_at hl 3 rfl) ?_
        refine lv_iconst (pc := 95) (v := (-1 : Int32)) hx hb dM_change_95 (by decide) ?_
        have hg := jwr_e hf; clear hf; obtain ⟨h18, σ17, e19, hf⟩ := hg
        refine j_iast (pc := 96) (ws' := mC ca ad σ17) S hw 2 1 mg_2 mt_2 h18 (by rw [e19]; exact ms_2) dM_change_96 (fun H locs hw => ?_)
        refine lv_aload_n (pc := 97) hx hb dM_change_97 rfl (lv_at hl 1 rfl) ?_
        refine lv_iload_n (pc := 98) hx hb dM_change_98 rfl (lv_at hl 2 rfl) ?_
        refine lv_iload_n (pc := 99) hx hb dM_change_99 rfl (lv_at hl 3 rfl) ?_
        refine lv_iload_n (pc := 100) hx hb dM_change_100 rfl (lv_at hl 4 rfl) ?_
        refine lv_iload (pc := 101) hx hb dM_change_101 (lv_at hl 5 rfl) ?_
        have hg := jbn_e hf; clear hf; obtain ⟨q20, h21, hf⟩ := hg
        refine j_callv (pc := 103) (C := mC ca ad) (σ' := q20) hw hA (va_runV (As := [.int x1, .int x2, .int x3, .int x4]) (rest := []) S (kM_put l D ca ad _ σ17 x1 x2 x3 x4 q20 h21) (cwV 4 S.2.2.2.2 (jgV k_719 k_721 ks_23 k_7 k_722) rfl rfl rfl (by decide +kernel) ⟨Nat.le_of_ble_eq_true rfl, Nat.le_of_ble_eq_true rfl⟩) (j_preV (As := [.int x1, .int x2, .int x3, .int x4]) hw mN_b (mN_to hN hw hA) rfl mg_0) rfl rfl hl.1 rfl (lv_room (Nat.le_of_ble_eq_true rfl)) dM_change_103 ⟨Nat.le_of_ble_eq_true rfl, Nat.le_of_ble_eq_true rfl⟩) (fun H locs hw => ?_)
        refine lv_aload_n (pc := 106) hx hb dM_change_106 rfl (lv_at hl 1 rfl) ?_
        refine j_get (pc := 107) (v := .int (q20 100 2)) S hw inM 0 6 5 mg_0 rfl (by decide) k_601 rfl dM_change_107 ?_
        obtain rfl := jsm hf
        exact j_iret (pc := 110) S hw hr hlk dM_change_110
      · replace hf := jif hf hc
        refine lv_aload_n (pc := 84) hx hb dM_change_84 rfl (lv_at hl 1 rfl) ?_
        refine lv_iconst (pc := 85) (v := (2 : Int32)) hx hb dM_change_85 (by decide) ?_
        have hg := jbn_e hf; clear hf; obtain ⟨q22, h23, hf⟩ := hg
        refine j_calli (pc := 86) (C := mC ca ad) (σ' := q22.2) (v := q22.1) hw hA (va_runV (As := [.int (2 : Int32)]) (rest := []) S (kM_refuse l D ca ad _ σ (2 : Int32) q22 h23) (cwV 1 S.2.2.2.2 (jgV k_715 k_717 ks_25 k_7 k_718) rfl rfl rfl (by decide +kernel) ⟨Nat.le_of_ble_eq_true rfl, Nat.le_of_ble_eq_true rfl⟩) (j_preV (As := [.int (2 : Int32)]) hw mN_b (mN_to hN hw hA) rfl mg_0) rfl rfl hl.1 rfl (lv_room (Nat.le_of_ble_eq_true rfl)) dM_change_86 ⟨Nat.le_of_ble_eq_true rfl, Nat.le_of_ble_eq_true rfl⟩) (fun H locs hw => ?_)
        obtain rfl := jsm hf
        exact j_iret (pc := 89) S hw hr hlk dM_change_89
set_option maxHeartbeats 4000000 in
set_option maxRecDepth 100000 in
theorem wmM_change_J24 {p : Program} {l : Launch} {e : Env} {s : State} {m : MethodId} {args : Array Value} {below : List Frame} {meth : Method} {c : Code} {D : va_G} {ca : Nat → ClassId} {ad : Nat → Nat} {A : Nat → Prop} (hA : ∀ q, s.heap.size ≤ q → A q) (S : CallFix p m c cM_change 6 s args jall RM) (hN : mN A s) (hr : meth.sig.returnType = some .int) (hlk : meth.locks = false) (out : Int32 × JS) (σ : JS) (x1 : Int32) (x2 : Int32) (x3 : Int32) (x4 : Int32) (y0 : Int32) (ls : Array Slot) (hl : lv_has ls 6 [(0, .ref (ad 0)), (1, .int x1), (2, .int x2), (3, .int x3), (4, .int x4)]) (hw : jH D (mT ca) (mC ca ad σ) A s.heap s.heap [] s) (hf : mM_change_J24 σ x1 x2 x3 x4 y0 = some out) : W p l e (headSpec wsM_change rmM_change).room s m args below meth c s.heap [] 0 0 (MQ below (jQi D (mT ca) (mC ca ad) A out.1 out.2) args s 0 0 A) (F0 m 24 ls [.int y0, .ref (ad 0)]) := by
  have hx := S.1
  have hb := S.2.1
  unfold mM_change_J24 at hf
  have hg := jst_e hf; clear hf; obtain ⟨σ3, e4, hf⟩ := hg
  refine j_put (pc := 24) (v := .int y0) (ws' := mC ca ad σ3) S hw inM tyM tyM_ok nmM 0 6 0 mg_0 rfl (by decide) k_596 rfl rfl rfl (Nat.le_of_ble_eq_true rfl) (by rw [e4]; exact mp_0) dM_change_24 (fun H locs hw => ?_)
  refine lv_aload_n (pc := 27) hx hb dM_change_27 rfl (lv_at hl 0 rfl) ?_
  refine j_get (pc := 28) (v := .int (σ3 100 0)) S hw inM 0 6 0 mg_0 rfl (by decide) k_596 rfl dM_change_28 ?_
  refine lv_if_le (pc := 31) (tgt := 36) hx hb dM_change_31 (by decide) (fun hc => ?_) (fun hc => ?_)
  · replace hf := jit hf hc
    refine lv_aload_n (pc := 36) hx hb dM_change_36 rfl (lv_at hl 0 rfl) ?_
    have hg := jbn_e hf; clear hf; obtain ⟨q5, h6, hf⟩ := hg
    refine j_cpi (pc := 37) (v := q5) (va_runV (As := []) (rest := []) S (kM_reserve l D ca ad _ σ3  q5 h6) (cwV 0 S.2.2.2.2 (jgV k_695 k_697 ks_24 k_7 k_698) rfl rfl rfl (by decide +kernel) ⟨Nat.le_of_ble_eq_true rfl, Nat.le_of_ble_eq_true rfl⟩) (j_preV (As := []) hw mN_b (mN_to hN hw hA) rfl mg_0) rfl rfl hl.1 rfl (lv_room (Nat.le_of_ble_eq_true rfl)) dM_change_37 ⟨Nat.le_of_ble_eq_true rfl, Nat.le_of_ble_eq_true rfl⟩) ?_
    refine lv_aload_n (pc := 40) hx hb dM_change_40 rfl (lv_at hl 0 rfl) ?_
    refine lv_iload_n (pc := 41) hx hb dM_change_41 rfl (lv_at hl 1 rfl) ?_
    have hg := jbn_e hf; clear hf; obtain ⟨q7, h8, hf⟩ := hg
    refine j_cpi (pc := 42) (v := q7) (va_runV (As := [.int x1]) (rest := [.int q5]) S (kM_changesOf l D ca ad _ σ3 x1 q7 h8) (cwV 1 S.2.2.2.2 (jgV k_699 k_701 ks_19 k_7 k_702) rfl rfl rfl (by decide +kernel) ⟨Nat.le_of_ble_eq_true rfl, Nat.le_of_ble_eq_true rfl⟩) (j_preV (As := [.int x1]) hw mN_b (mN_to hN hw hA) rfl mg_0) rfl rfl hl.1 rfl (lv_room (Nat.le_of_ble_eq_true rfl)) dM_change_42 ⟨Nat.le_of_ble_eq_true rfl, Nat.le_of_ble_eq_true rfl⟩) ?_
    refine lv_if_le (pc := 45) (tgt := 52) hx hb dM_change_45 (by decide) (fun hc => ?_) (fun hc => ?_)
    · replace hf := jit hf hc
      refine lv_iconst (pc := 52) (v := (2 : Int32)) hx hb dM_change_52 (by decide) ?_
      exact wmM_change_J53g hA S hN hr hlk out σ3 x1 x2 x3 x4 (2 : Int32) q5 _ _ _ (lv_sub hl [0, 1, 2, 3, 4] rfl) hw hf
    · replace hf := jif hf hc
      refine lv_iconst (pc := 48) (v := (1 : Int32)) hx hb dM_change_48 (by decide) ?_
      refine lv_goto (pc := 49) (tgt := 53) hx hb dM_change_49 (by decide) ?_
      exact wmM_change_J53g hA S hN hr hlk out σ3 x1 x2 x3 x4 (1 : Int32) q5 _ _ _ (lv_sub hl [0, 1, 2, 3, 4] rfl) hw hf
  · replace hf := jif hf hc
    refine lv_iconst (pc := 34) (v := (0 : Int32)) hx hb dM_change_34 (by decide) ?_
    obtain rfl := jsm hf
    exact j_iret (pc := 35) S hw hr hlk dM_change_35
set_option maxHeartbeats 4000000 in
set_option maxRecDepth 100000 in
theorem wmM_change_J23 {p : Program} {l : Launch} {e : Env} {s : State} {m : MethodId} {args : Array Value} {below : List Frame} {meth : Method} {c : Code} {D : va_G} {ca : Nat → ClassId} {ad : Nat → Nat} {A : Nat → Prop} (hA : ∀ q, s.heap.size ≤ q → A q) (S : CallFix p m c cM_change 6 s args jall RM) (hN : mN A s) (hr : meth.sig.returnType = some .int) (hlk : meth.locks = false) (out : Int32 × JS) (σ : JS) (x1 : Int32) (x2 : Int32) (x3 : Int32) (x4 : Int32) (ls : Array Slot) (hl : lv_has ls 6 [(0, .ref (ad 0)), (1, .int x1), (2, .int x2), (3, .int x3), (4, .int x4)]) (hw : jH D (mT ca) (mC ca ad σ) A s.heap s.heap [] s) (hf : mM_change_J23 σ x1 x2 x3 x4 = some out) : W p l e (headSpec wsM_change rmM_change).room s m args below meth c s.heap [] 0 0 (MQ below (jQi D (mT ca) (mC ca ad) A out.1 out.2) args s 0 0 A) (F0 m 23 ls [.ref (ad 0)]) := by
  have hx := S.1
  have hb := S.2.1
  unfold mM_change_J23 at hf
  refine lv_iconst (pc := 23) (v := (1 : Int32)) hx hb dM_change_23 (by decide) ?_
  exact wmM_change_J24 hA S hN hr hlk out σ x1 x2 x3 x4 (1 : Int32) _ (lv_sub hl [0, 1, 2, 3, 4] rfl) hw hf
set_option maxHeartbeats 4000000 in
set_option maxRecDepth 100000 in
theorem bM_change {p : Program} {l : Launch} {e : Env} {s : State} {m : MethodId} {args : Array Value} {below : List Frame} {meth : Method} {c : Code} {D : va_G} {ca : Nat → ClassId} {ad : Nat → Nat} {A : Nat → Prop} (hA : ∀ q, s.heap.size ≤ q → A q) (S : CallFix p m c cM_change 6 s args jall RM) (hN : mN A s) (hr : meth.sig.returnType = some .int) (hlk : meth.locks = false) (out : Int32 × JS) (σ : JS) (x1 : Int32) (x2 : Int32) (x3 : Int32) (x4 : Int32) (ls : Array Slot) (hl : lv_has ls 6 [(0, .ref (ad 0)), (1, .int x1), (2, .int x2), (3, .int x3), (4, .int x4)]) (hw : jH D (mT ca) (mC ca ad σ) A s.heap s.heap [] s) (hf : mM_change σ x1 x2 x3 x4 = some out) : W p l e (headSpec wsM_change rmM_change).room s m args below meth c s.heap [] 0 0 (MQ below (jQi D (mT ca) (mC ca ad) A out.1 out.2) args s 0 0 A) (F0 m 0 ls []) := by
  have hx := S.1
  have hb := S.2.1
  unfold mM_change at hf
  refine lv_aload_n (pc := 0) hx hb dM_change_0 rfl (lv_at hl 0 rfl) ?_
  refine lv_iload_n (pc := 1) hx hb dM_change_1 rfl (lv_at hl 1 rfl) ?_
  refine lv_iconst (pc := 2) (v := (0 : Int32)) hx hb dM_change_2 (by decide) ?_
  refine lv_iconst (pc := 3) (v := (2 : Int32)) hx hb dM_change_3 (by decide) ?_
  have hg := jbn_e hf; clear hf; obtain ⟨q1, h2, hf⟩ := hg
  refine j_cpi (pc := 4) (v := q1) (va_runS (As := [.int x1, .int (0 : Int32), .int (2 : Int32)]) (rest := [.ref (ad 0)]) S (kM_within l D ca ad _ σ x1 (0 : Int32) (2 : Int32) q1 h2) (cwS 3 S.2.2.2.2 (jgS k_680 k_681 k_7 k_682) rfl rfl rfl (by decide +kernel) ⟨Nat.le_of_ble_eq_true rfl, Nat.le_of_ble_eq_true rfl⟩) (j_preS hw mN_b (mN_to hN hw hA)) rfl rfl hl.1 rfl (lv_room (Nat.le_of_ble_eq_true rfl)) dM_change_4 ⟨Nat.le_of_ble_eq_true rfl, Nat.le_of_ble_eq_true rfl⟩) ?_
  refine lv_if_eq (pc := 7) (tgt := 23) hx hb dM_change_7 (by decide) (fun hc => ?_) (fun hc => ?_)
  · replace hf := jit hf hc
    exact wmM_change_J23 hA S hN hr hlk out σ x1 x2 x3 x4 _ (lv_sub hl [0, 1, 2, 3, 4] rfl) hw hf
  · replace hf := jif hf hc
    refine lv_aload_n (pc := 10) hx hb dM_change_10 rfl (lv_at hl 0 rfl) ?_
    refine lv_iload_n (pc := 11) hx hb dM_change_11 rfl (lv_at hl 2 rfl) ?_
    refine lv_iload_n (pc := 12) hx hb dM_change_12 rfl (lv_at hl 3 rfl) ?_
    have hg := jbn_e hf; clear hf; obtain ⟨q24, h25, hf⟩ := hg
    refine j_cpi (pc := 13) (v := q24) (va_runV (As := [.int x2, .int x3]) (rest := [.ref (ad 0)]) S (kM_isRecord l D ca ad _ σ x2 x3 q24 h25) (cwV 2 S.2.2.2.2 (jgV k_687 k_689 ks_28 k_7 k_690) rfl rfl rfl (by decide +kernel) ⟨Nat.le_of_ble_eq_true rfl, Nat.le_of_ble_eq_true rfl⟩) (j_preV (As := [.int x2, .int x3]) hw mN_b (mN_to hN hw hA) rfl mg_0) rfl rfl hl.1 rfl (lv_room (Nat.le_of_ble_eq_true rfl)) dM_change_13 ⟨Nat.le_of_ble_eq_true rfl, Nat.le_of_ble_eq_true rfl⟩) ?_
    refine lv_if_eq (pc := 16) (tgt := 23) hx hb dM_change_16 (by decide) (fun hc => ?_) (fun hc => ?_)
    · replace hf := jit hf hc
      exact wmM_change_J23 hA S hN hr hlk out σ x1 x2 x3 x4 _ (lv_sub hl [0, 1, 2, 3, 4] rfl) hw hf
    · replace hf := jif hf hc
      refine lv_iconst (pc := 19) (v := (0 : Int32)) hx hb dM_change_19 (by decide) ?_
      refine lv_goto (pc := 20) (tgt := 24) hx hb dM_change_20 (by decide) ?_
      exact wmM_change_J24 hA S hN hr hlk out σ x1 x2 x3 x4 (0 : Int32) _ (lv_sub hl [0, 1, 2, 3, 4] rfl) hw hf
set_option maxHeartbeats 4000000 in
set_option maxRecDepth 100000 in
theorem kM_change (l : Launch) (D : va_G) (ca : Nat → ClassId) (ad : Nat → Nat) (sz : Nat) (σ : JS) (x1 : Int32) (x2 : Int32) (x3 : Int32) (x4 : Int32) (out : Int32 × JS) (hf : mM_change σ x1 x2 x3 x4 = some out) : Met l yM_change wsM_change rmM_change (jPre D (mT ca) (mC ca ad σ) (mN (va_A (mC ca ad σ) sz)) sz [.ref (ad 0), .int x1, .int x2, .int x3, .int x4]) (jQi D (mT ca) (mC ca ad) (va_A (mC ca ad σ) sz) out.1 out.2) 0 0 (va_A (mC ca ad σ) sz) := by
  refine Met.ofW (cc := cM_change) (maxL := 6) (ret := some .int) (by decide) rfl ?_
  intro p e s m args below meth c s₁ B hml hv
  obtain ⟨rfl, hsz, hP, hK, hD0, hN⟩ := hv
  subst hsz
  have hl := lv_entry [.ref (ad 0), .int x1, .int x2, .int x3, .int x4] (n := 6) (Nat.le_of_ble_eq_true rfl)
  rw [lg_entry_eq]
  generalize (lg_sl [.ref (ad 0), .int x1, .int x2, .int x3, .int x4] ++ List.replicate (6 - (lg_sl [.ref (ad 0), .int x1, .int x2, .int x3, .int x4]).length) Slot.unset).toArray = ls at hl ⊢
  exact bM_change (fun q h => Or.inr h) ⟨B.exec, B.bytes, hml, findClass_of_methodNamed B.named, fun w h => atoms_spec (ws := wsM_change) B.pre w (List.mem_cons_of_mem _ h)⟩ hN B.returns B.notSynchronized out σ x1 x2 x3 x4 ls hl ⟨hP, hD0.self, va_S.rf, hK⟩ hf

def rmM_get : Room := { frames := 3, cells := 0, slots := 0, locals := 65 }
def mM_get (σ : JS) (x1 : Int32) (x2 : Int32) : Option (Int64 × JS) :=
  jst (jw2 σ 100 0 (0 : Int32)) fun σ1 =>
  if (σ1 100 5) = 0 then
  (jbn (mM_isRecord σ1 x1 x2) fun q3 =>
  if q3 = 0 then
  (some ((1099511627776 : Int64), σ1))
  else
  (jbn (mM_valueAt σ1 x1 x2 (σ1 100 2)) fun q5 =>
  some (q5.toInt64, σ1)))
  else
  (some ((1099511627776 : Int64), σ1))
set_option maxHeartbeats 4000000 in
set_option maxRecDepth 100000 in
theorem bM_get {p : Program} {l : Launch} {e : Env} {s : State} {m : MethodId} {args : Array Value} {below : List Frame} {meth : Method} {c : Code} {D : va_G} {ca : Nat → ClassId} {ad : Nat → Nat} {A : Nat → Prop} (hA : ∀ q, s.heap.size ≤ q → A q) (S : CallFix p m c cM_get 3 s args jall RM) (hN : mN A s) (hr : meth.sig.returnType = some .long) (hlk : meth.locks = false) (out : Int64 × JS) (σ : JS) (x1 : Int32) (x2 : Int32) (ls : Array Slot) (hl : lv_has ls 3 [(0, .ref (ad 0)), (1, .int x1), (2, .int x2)]) (hw : jH D (mT ca) (mC ca ad σ) A s.heap s.heap [] s) (hf : mM_get σ x1 x2 = some out) : W p l e (headSpec wsM_get rmM_get).room s m args below meth c s.heap [] 0 0 (MQ below (jQl D (mT ca) (mC ca ad) A out.1 out.2) args s 0 0 A) (F0 m 0 ls []) := by
  have hx := S.1
  have hb := S.2.1
  unfold mM_get at hf
  refine lv_aload_n (pc := 0) hx hb dM_get_0 rfl (lv_at hl 0 rfl) ?_
  refine lv_iconst (pc := 1) (v := (0 : Int32)) hx hb dM_get_1 (by decide) ?_
  have hg := jst_e hf; clear hf; obtain ⟨σ1, e2, hf⟩ := hg
  refine j_put (pc := 2) (v := .int (0 : Int32)) (ws' := mC ca ad σ1) S hw inM tyM tyM_ok nmM 0 6 0 mg_0 rfl (by decide) k_596 rfl rfl rfl (Nat.le_of_ble_eq_true rfl) (by rw [e2]; exact mp_0) dM_get_2 (fun H locs hw => ?_)
  refine lv_aload_n (pc := 5) hx hb dM_get_5 rfl (lv_at hl 0 rfl) ?_
  refine j_get (pc := 6) (v := .int (σ1 100 5)) S hw inM 0 6 8 mg_0 rfl (by decide) k_604 rfl dM_get_6 ?_
  refine lv_if_ne (pc := 9) (tgt := 21) hx hb dM_get_9 (by decide) (fun hc => ?_) (fun hc => ?_)
  · replace hf := jif hf hc
    refine lv_ldc2 (pc := 21) (v := (1099511627776 : Int64)) hx hb S.2.2.2.1 (S.2.2.2.2 _ k_739) dM_get_21 ?_
    refine lv_goto (pc := 24) (tgt := 38) hx hb dM_get_24 (by decide) ?_
    obtain rfl := jsm hf
    exact j_lret (pc := 38) S hw hr hlk dM_get_38
  · replace hf := jit hf hc
    refine lv_aload_n (pc := 12) hx hb dM_get_12 rfl (lv_at hl 0 rfl) ?_
    refine lv_iload_n (pc := 13) hx hb dM_get_13 rfl (lv_at hl 1 rfl) ?_
    refine lv_iload_n (pc := 14) hx hb dM_get_14 rfl (lv_at hl 2 rfl) ?_
    have hg := jbn_e hf; clear hf; obtain ⟨q3, h4, hf⟩ := hg
    refine j_cpi (pc := 15) (v := q3) (va_runV (As := [.int x1, .int x2]) (rest := []) S (kM_isRecord l D ca ad _ σ1 x1 x2 q3 h4) (cwV 2 S.2.2.2.2 (jgV k_687 k_689 ks_28 k_7 k_690) rfl rfl rfl (by decide +kernel) ⟨Nat.le_of_ble_eq_true rfl, Nat.le_of_ble_eq_true rfl⟩) (j_preV (As := [.int x1, .int x2]) hw mN_b (mN_to hN hw hA) rfl mg_0) rfl rfl hl.1 rfl (lv_room (Nat.le_of_ble_eq_true rfl)) dM_get_15 ⟨Nat.le_of_ble_eq_true rfl, Nat.le_of_ble_eq_true rfl⟩) ?_
    refine lv_if_ne (pc := 18) (tgt := 27) hx hb dM_get_18 (by decide) (fun hc => ?_) (fun hc => ?_)
    · replace hf := jif hf hc
      refine lv_aload_n (pc := 27) hx hb dM_get_27 rfl (lv_at hl 0 rfl) ?_
      refine lv_iload_n (pc := 28) hx hb dM_get_28 rfl (lv_at hl 1 rfl) ?_
      refine lv_iload_n (pc := 29) hx hb dM_get_29 rfl (lv_at hl 2 rfl) ?_
      refine lv_aload_n (pc := 30) hx hb dM_get_30 rfl (lv_at hl 0 rfl) ?_
      refine j_get (pc := 31) (v := .int (σ1 100 2)) S hw inM 0 6 5 mg_0 rfl (by decide) k_601 rfl dM_get_31 ?_
      have hg := jbn_e hf; clear hf; obtain ⟨q5, h6, hf⟩ := hg
      refine j_cpi (pc := 34) (v := q5) (va_runV (As := [.int x1, .int x2, .int (σ1 100 2)]) (rest := []) S (kM_valueAt l D ca ad _ σ1 x1 x2 (σ1 100 2) q5 h6) (cwV 3 S.2.2.2.2 (jgV k_727 k_729 ks_20 k_7 k_730) rfl rfl rfl (by decide +kernel) ⟨Nat.le_of_ble_eq_true rfl, Nat.le_of_ble_eq_true rfl⟩) (j_preV (As := [.int x1, .int x2, .int (σ1 100 2)]) hw mN_b (mN_to hN hw hA) rfl mg_0) rfl rfl hl.1 rfl (lv_room (Nat.le_of_ble_eq_true rfl)) dM_get_34 ⟨Nat.le_of_ble_eq_true rfl, Nat.le_of_ble_eq_true rfl⟩) ?_
      refine lv_i2l (pc := 37) (v := q5.toInt64) hx hb dM_get_37 rfl ?_
      obtain rfl := jsm hf
      exact j_lret (pc := 38) S hw hr hlk dM_get_38
    · replace hf := jit hf hc
      refine lv_ldc2 (pc := 21) (v := (1099511627776 : Int64)) hx hb S.2.2.2.1 (S.2.2.2.2 _ k_739) dM_get_21 ?_
      refine lv_goto (pc := 24) (tgt := 38) hx hb dM_get_24 (by decide) ?_
      obtain rfl := jsm hf
      exact j_lret (pc := 38) S hw hr hlk dM_get_38
set_option maxHeartbeats 4000000 in
set_option maxRecDepth 100000 in
theorem kM_get (l : Launch) (D : va_G) (ca : Nat → ClassId) (ad : Nat → Nat) (sz : Nat) (σ : JS) (x1 : Int32) (x2 : Int32) (out : Int64 × JS) (hf : mM_get σ x1 x2 = some out) : Met l yM_get wsM_get rmM_get (jPre D (mT ca) (mC ca ad σ) (mN (va_A (mC ca ad σ) sz)) sz [.ref (ad 0), .int x1, .int x2]) (jQl D (mT ca) (mC ca ad) (va_A (mC ca ad σ) sz) out.1 out.2) 0 0 (va_A (mC ca ad σ) sz) := by
  refine Met.ofW (cc := cM_get) (maxL := 3) (ret := some .long) (by decide) rfl ?_
  intro p e s m args below meth c s₁ B hml hv
  obtain ⟨rfl, hsz, hP, hK, hD0, hN⟩ := hv
  subst hsz
  have hl := lv_entry [.ref (ad 0), .int x1, .int x2] (n := 3) (Nat.le_of_ble_eq_true rfl)
  rw [lg_entry_eq]
  generalize (lg_sl [.ref (ad 0), .int x1, .int x2] ++ List.replicate (3 - (lg_sl [.ref (ad 0), .int x1, .int x2]).length) Slot.unset).toArray = ls at hl ⊢
  exact bM_get (fun q h => Or.inr h) ⟨B.exec, B.bytes, hml, findClass_of_methodNamed B.named, fun w h => atoms_spec (ws := wsM_get) B.pre w (List.mem_cons_of_mem _ h)⟩ hN B.returns B.notSynchronized out σ x1 x2 ls hl ⟨hP, hD0.self, va_S.rf, hK⟩ hf

def rmM_disk : Room := { frames := 3, cells := 0, slots := 0, locals := 65 }
def mM_disk (σ : JS) (x1 : Int32) (x2 : Int32) : Option (Int64 × JS) :=
  jst (jw2 σ 100 0 (0 : Int32)) fun σ1 =>
  jbn (mM_isRecord σ1 x1 x2) fun q3 =>
  if q3 = 0 then
  (some ((1099511627776 : Int64), σ1))
  else
  (jrd σ1 10 24 (((8 : Int32) * x1) + x2) fun v5 =>
  some (v5.toInt64, σ1))
set_option maxHeartbeats 4000000 in
set_option maxRecDepth 100000 in
theorem bM_disk {p : Program} {l : Launch} {e : Env} {s : State} {m : MethodId} {args : Array Value} {below : List Frame} {meth : Method} {c : Code} {D : va_G} {ca : Nat → ClassId} {ad : Nat → Nat} {A : Nat → Prop} (hA : ∀ q, s.heap.size ≤ q → A q) (S : CallFix p m c cM_disk 3 s args jall RM) (hN : mN A s) (hr : meth.sig.returnType = some .long) (hlk : meth.locks = false) (out : Int64 × JS) (σ : JS) (x1 : Int32) (x2 : Int32) (ls : Array Slot) (hl : lv_has ls 3 [(0, .ref (ad 0)), (1, .int x1), (2, .int x2)]) (hw : jH D (mT ca) (mC ca ad σ) A s.heap s.heap [] s) (hf : mM_disk σ x1 x2 = some out) : W p l e (headSpec wsM_disk rmM_disk).room s m args below meth c s.heap [] 0 0 (MQ below (jQl D (mT ca) (mC ca ad) A out.1 out.2) args s 0 0 A) (F0 m 0 ls []) := by
  have hx := S.1
  have hb := S.2.1
  unfold mM_disk at hf
  refine lv_aload_n (pc := 0) hx hb dM_disk_0 rfl (lv_at hl 0 rfl) ?_
  refine lv_iconst (pc := 1) (v := (0 : Int32)) hx hb dM_disk_1 (by decide) ?_
  have hg := jst_e hf; clear hf; obtain ⟨σ1, e2, hf⟩ := hg
  refine j_put (pc := 2) (v := .int (0 : Int32)) (ws' := mC ca ad σ1) S hw inM tyM tyM_ok nmM 0 6 0 mg_0 rfl (by decide) k_596 rfl rfl rfl (Nat.le_of_ble_eq_true rfl) (by rw [e2]; exact mp_0) dM_disk_2 (fun H locs hw => ?_)
  refine lv_aload_n (pc := 5) hx hb dM_disk_5 rfl (lv_at hl 0 rfl) ?_
  refine lv_iload_n (pc := 6) hx hb dM_disk_6 rfl (lv_at hl 1 rfl) ?_
  refine lv_iload_n (pc := 7) hx hb dM_disk_7 rfl (lv_at hl 2 rfl) ?_
  have hg := jbn_e hf; clear hf; obtain ⟨q3, h4, hf⟩ := hg
  refine j_cpi (pc := 8) (v := q3) (va_runV (As := [.int x1, .int x2]) (rest := []) S (kM_isRecord l D ca ad _ σ1 x1 x2 q3 h4) (cwV 2 S.2.2.2.2 (jgV k_687 k_689 ks_28 k_7 k_690) rfl rfl rfl (by decide +kernel) ⟨Nat.le_of_ble_eq_true rfl, Nat.le_of_ble_eq_true rfl⟩) (j_preV (As := [.int x1, .int x2]) hw mN_b (mN_to hN hw hA) rfl mg_0) rfl rfl hl.1 rfl (lv_room (Nat.le_of_ble_eq_true rfl)) dM_disk_8 ⟨Nat.le_of_ble_eq_true rfl, Nat.le_of_ble_eq_true rfl⟩) ?_
  refine lv_if_eq (pc := 11) (tgt := 29) hx hb dM_disk_11 (by decide) (fun hc => ?_) (fun hc => ?_)
  · replace hf := jit hf hc
    refine lv_ldc2 (pc := 29) (v := (1099511627776 : Int64)) hx hb S.2.2.2.1 (S.2.2.2.2 _ k_739) dM_disk_29 ?_
    obtain rfl := jsm hf
    exact j_lret (pc := 32) S hw hr hlk dM_disk_32
  · replace hf := jif hf hc
    refine lv_aload_n (pc := 14) hx hb dM_disk_14 rfl (lv_at hl 0 rfl) ?_
    refine j_get (pc := 15) (v := .ref (ad 10)) S hw inM 0 6 15 mg_0 rfl (by decide) k_611 rfl dM_disk_15 ?_
    refine lv_bipush (pc := 18) (v := (8 : Int32)) hx hb dM_disk_18 (by decide) ?_
    refine lv_iload_n (pc := 20) hx hb dM_disk_20 rfl (lv_at hl 1 rfl) ?_
    refine lv_imul (pc := 21) hx hb dM_disk_21 ?_
    refine lv_iload_n (pc := 22) hx hb dM_disk_22 rfl (lv_at hl 2 rfl) ?_
    refine lv_iadd (pc := 23) hx hb dM_disk_23 ?_
    have hg := jrd_e hf; clear hf; obtain ⟨h6, v5, e7, hf⟩ := hg
    refine j_iald (pc := 24) S hw 10 9 mg_10 mt_10 h6 e7 dM_disk_24 ?_
    refine lv_i2l (pc := 25) (v := v5.toInt64) hx hb dM_disk_25 rfl ?_
    refine lv_goto (pc := 26) (tgt := 32) hx hb dM_disk_26 (by decide) ?_
    obtain rfl := jsm hf
    exact j_lret (pc := 32) S hw hr hlk dM_disk_32
set_option maxHeartbeats 4000000 in
set_option maxRecDepth 100000 in
theorem kM_disk (l : Launch) (D : va_G) (ca : Nat → ClassId) (ad : Nat → Nat) (sz : Nat) (σ : JS) (x1 : Int32) (x2 : Int32) (out : Int64 × JS) (hf : mM_disk σ x1 x2 = some out) : Met l yM_disk wsM_disk rmM_disk (jPre D (mT ca) (mC ca ad σ) (mN (va_A (mC ca ad σ) sz)) sz [.ref (ad 0), .int x1, .int x2]) (jQl D (mT ca) (mC ca ad) (va_A (mC ca ad σ) sz) out.1 out.2) 0 0 (va_A (mC ca ad σ) sz) := by
  refine Met.ofW (cc := cM_disk) (maxL := 3) (ret := some .long) (by decide) rfl ?_
  intro p e s m args below meth c s₁ B hml hv
  obtain ⟨rfl, hsz, hP, hK, hD0, hN⟩ := hv
  subst hsz
  have hl := lv_entry [.ref (ad 0), .int x1, .int x2] (n := 3) (Nat.le_of_ble_eq_true rfl)
  rw [lg_entry_eq]
  generalize (lg_sl [.ref (ad 0), .int x1, .int x2] ++ List.replicate (3 - (lg_sl [.ref (ad 0), .int x1, .int x2]).length) Slot.unset).toArray = ls at hl ⊢
  exact bM_disk (fun q h => Or.inr h) ⟨B.exec, B.bytes, hml, findClass_of_methodNamed B.named, fun w h => atoms_spec (ws := wsM_disk) B.pre w (List.mem_cons_of_mem _ h)⟩ hN B.returns B.notSynchronized out σ x1 x2 ls hl ⟨hP, hD0.self, va_S.rf, hK⟩ hf

def rmM_end : Room := { frames := 4, cells := 0, slots := 0, locals := 97 }
def mM_end_J34 (σ : JS) (x1 : Int32) (x2 : Int32) (y0 : Int32) : Option (Int32 × JS) :=
  jst (jw2 σ 100 0 y0) fun σ3 =>
  if (σ3 100 0) ≤ 0 then
  (if x2 = 0 then
  (jbn (mM_undo σ3 x1) fun q5 =>
  some ((q5 100 2), q5))
  else
  (jbn (mM_note σ3 (2 : Int32) x1 (0 : Int32) (0 : Int32) (0 : Int32)) fun q7 =>
  some ((q7 100 2), q7)))
  else
  (some ((0 : Int32), σ3))
def mM_end_J29 (σ : JS) (x1 : Int32) (x2 : Int32) : Option (Int32 × JS) :=
  mM_end_J34 σ x1 x2 (2 : Int32)
def mM_end (σ : JS) (x1 : Int32) (x2 : Int32) : Option (Int32 × JS) :=
  jbn (mM_within σ x1 (0 : Int32) (2 : Int32)) fun q1 =>
  if q1 = 0 then
  (mM_end_J34 σ x1 x2 (1 : Int32))
  else
  (if (σ 100 5) = 0 then
  (jbn (mM_changesOf σ x1) fun q9 =>
  if q9 = 0 then
  (mM_end_J29 σ x1 x2)
  else
  (mM_end_J34 σ x1 x2 (0 : Int32)))
  else
  (mM_end_J29 σ x1 x2))
set_option maxHeartbeats 4000000 in
set_option maxRecDepth 100000 in
theorem wmM_end_J34 {p : Program} {l : Launch} {e : Env} {s : State} {m : MethodId} {args : Array Value} {below : List Frame} {meth : Method} {c : Code} {D : va_G} {ca : Nat → ClassId} {ad : Nat → Nat} {A : Nat → Prop} (hA : ∀ q, s.heap.size ≤ q → A q) (S : CallFix p m c cM_end 3 s args jall RM) (hN : mN A s) (hr : meth.sig.returnType = some .int) (hlk : meth.locks = false) (out : Int32 × JS) (σ : JS) (x1 : Int32) (x2 : Int32) (y0 : Int32) (ls : Array Slot) (hl : lv_has ls 3 [(0, .ref (ad 0)), (1, .int x1), (2, .int x2)]) (hw : jH D (mT ca) (mC ca ad σ) A s.heap s.heap [] s) (hf : mM_end_J34 σ x1 x2 y0 = some out) : W p l e (headSpec wsM_end rmM_end).room s m args below meth c s.heap [] 0 0 (MQ below (jQi D (mT ca) (mC ca ad) A out.1 out.2) args s 0 0 A) (F0 m 34 ls [.int y0, .ref (ad 0)]) := by
  have hx := S.1
  have hb := S.2.1
  unfold mM_end_J34 at hf
  have hg := jst_e hf; clear hf; obtain ⟨σ3, e4, hf⟩ := hg
  refine j_put (pc := 34) (v := .int y0) (ws' := mC ca ad σ3) S hw inM tyM tyM_ok nmM 0 6 0 mg_0 rfl (by decide) k_596 rfl rfl rfl (Nat.le_of_ble_eq_true rfl) (by rw [e4]; exact mp_0) dM_end_34 (fun H locs hw => ?_)
  refine lv_aload_n (pc := 37) hx hb dM_end_37 rfl (lv_at hl 0 rfl) ?_
  refine j_get (pc := 38) (v := .int (σ3 100 0)) S hw inM 0 6 0 mg_0 rfl (by decide) k_596 rfl dM_end_38 ?_
  refine lv_if_le (pc := 41) (tgt := 46) hx hb dM_end_41 (by decide) (fun hc => ?_) (fun hc => ?_)
  · replace hf := jit hf hc
    refine lv_iload_n (pc := 46) hx hb dM_end_46 rfl (lv_at hl 2 rfl) ?_
    refine lv_if_eq (pc := 47) (tgt := 62) hx hb dM_end_47 (by decide) (fun hc => ?_) (fun hc => ?_)
    · replace hf := jit hf hc
      refine lv_aload_n (pc := 62) hx hb dM_end_62 rfl (lv_at hl 0 rfl) ?_
      refine lv_iload_n (pc := 63) hx hb dM_end_63 rfl (lv_at hl 1 rfl) ?_
      have hg := jbn_e hf; clear hf; obtain ⟨q5, h6, hf⟩ := hg
      refine j_callv (pc := 64) (C := mC ca ad) (σ' := q5) hw hA (va_runV (As := [.int x1]) (rest := []) S (kM_undo l D ca ad _ σ3 x1 q5 h6) (cwV 1 S.2.2.2.2 (jgV k_748 k_750 ks_29 k_7 k_751) rfl rfl rfl (by decide +kernel) ⟨Nat.le_of_ble_eq_true rfl, Nat.le_of_ble_eq_true rfl⟩) (j_preV (As := [.int x1]) hw mN_b (mN_to hN hw hA) rfl mg_0) rfl rfl hl.1 rfl (lv_room (Nat.le_of_ble_eq_true rfl)) dM_end_64 ⟨Nat.le_of_ble_eq_true rfl, Nat.le_of_ble_eq_true rfl⟩) (fun H locs hw => ?_)
      refine lv_aload_n (pc := 67) hx hb dM_end_67 rfl (lv_at hl 0 rfl) ?_
      refine j_get (pc := 68) (v := .int (q5 100 2)) S hw inM 0 6 5 mg_0 rfl (by decide) k_601 rfl dM_end_68 ?_
      obtain rfl := jsm hf
      exact j_iret (pc := 71) S hw hr hlk dM_end_71
    · replace hf := jif hf hc
      refine lv_aload_n (pc := 50) hx hb dM_end_50 rfl (lv_at hl 0 rfl) ?_
      refine lv_iconst (pc := 51) (v := (2 : Int32)) hx hb dM_end_51 (by decide) ?_
      refine lv_iload_n (pc := 52) hx hb dM_end_52 rfl (lv_at hl 1 rfl) ?_
      refine lv_iconst (pc := 53) (v := (0 : Int32)) hx hb dM_end_53 (by decide) ?_
      refine lv_iconst (pc := 54) (v := (0 : Int32)) hx hb dM_end_54 (by decide) ?_
      refine lv_iconst (pc := 55) (v := (0 : Int32)) hx hb dM_end_55 (by decide) ?_
      have hg := jbn_e hf; clear hf; obtain ⟨q7, h8, hf⟩ := hg
      refine j_callv (pc := 56) (C := mC ca ad) (σ' := q7) hw hA (va_runV (As := [.int (2 : Int32), .int x1, .int (0 : Int32), .int (0 : Int32), .int (0 : Int32)]) (rest := []) S (kM_note l D ca ad _ σ3 (2 : Int32) x1 (0 : Int32) (0 : Int32) (0 : Int32) q7 h8) (cwV 5 S.2.2.2.2 (jgV k_723 k_725 ks_21 k_7 k_726) rfl rfl rfl (by decide +kernel) ⟨Nat.le_of_ble_eq_true rfl, Nat.le_of_ble_eq_true rfl⟩) (j_preV (As := [.int (2 : Int32), .int x1, .int (0 : Int32), .int (0 : Int32), .int (0 : Int32)]) hw mN_b (mN_to hN hw hA) rfl mg_0) rfl rfl hl.1 rfl (lv_room (Nat.le_of_ble_eq_true rfl)) dM_end_56 ⟨Nat.le_of_ble_eq_true rfl, Nat.le_of_ble_eq_true rfl⟩) (fun H locs hw => ?_)
      refine lv_goto (pc := 59) (tgt := 67) hx hb dM_end_59 (by decide) ?_
      refine lv_aload_n (pc := 67) hx hb dM_end_67 rfl (lv_at hl 0 rfl) ?_
      refine j_get (pc := 68) (v := .int (q7 100 2)) S hw inM 0 6 5 mg_0 rfl (by decide) k_601 rfl dM_end_68 ?_
      obtain rfl := jsm hf
      exact j_iret (pc := 71) S hw hr hlk dM_end_71
  · replace hf := jif hf hc
    refine lv_iconst (pc := 44) (v := (0 : Int32)) hx hb dM_end_44 (by decide) ?_
    obtain rfl := jsm hf
    exact j_iret (pc := 45) S hw hr hlk dM_end_45
set_option maxHeartbeats 4000000 in
set_option maxRecDepth 100000 in
theorem wmM_end_J29 {p : Program} {l : Launch} {e : Env} {s : State} {m : MethodId} {args : Array Value} {below : List Frame} {meth : Method} {c : Code} {D : va_G} {ca : Nat → ClassId} {ad : Nat → Nat} {A : Nat → Prop} (hA : ∀ q, s.heap.size ≤ q → A q) (S : CallFix p m c cM_end 3 s args jall RM) (hN : mN A s) (hr : meth.sig.returnType = some .int) (hlk : meth.locks = false) (out : Int32 × JS) (σ : JS) (x1 : Int32) (x2 : Int32) (ls : Array Slot) (hl : lv_has ls 3 [(0, .ref (ad 0)), (1, .int x1), (2, .int x2)]) (hw : jH D (mT ca) (mC ca ad σ) A s.heap s.heap [] s) (hf : mM_end_J29 σ x1 x2 = some out) : W p l e (headSpec wsM_end rmM_end).room s m args below meth c s.heap [] 0 0 (MQ below (jQi D (mT ca) (mC ca ad) A out.1 out.2) args s 0 0 A) (F0 m 29 ls [.ref (ad 0)]) := by
  have hx := S.1
  have hb := S.2.1
  unfold mM_end_J29 at hf
  refine lv_iconst (pc := 29) (v := (2 : Int32)) hx hb dM_end_29 (by decide) ?_
  refine lv_goto (pc := 30) (tgt := 34) hx hb dM_end_30 (by decide) ?_
  exact wmM_end_J34 hA S hN hr hlk out σ x1 x2 (2 : Int32) _ (lv_sub hl [0, 1, 2] rfl) hw hf
set_option maxHeartbeats 4000000 in
set_option maxRecDepth 100000 in
theorem bM_end {p : Program} {l : Launch} {e : Env} {s : State} {m : MethodId} {args : Array Value} {below : List Frame} {meth : Method} {c : Code} {D : va_G} {ca : Nat → ClassId} {ad : Nat → Nat} {A : Nat → Prop} (hA : ∀ q, s.heap.size ≤ q → A q) (S : CallFix p m c cM_end 3 s args jall RM) (hN : mN A s) (hr : meth.sig.returnType = some .int) (hlk : meth.locks = false) (out : Int32 × JS) (σ : JS) (x1 : Int32) (x2 : Int32) (ls : Array Slot) (hl : lv_has ls 3 [(0, .ref (ad 0)), (1, .int x1), (2, .int x2)]) (hw : jH D (mT ca) (mC ca ad σ) A s.heap s.heap [] s) (hf : mM_end σ x1 x2 = some out) : W p l e (headSpec wsM_end rmM_end).room s m args below meth c s.heap [] 0 0 (MQ below (jQi D (mT ca) (mC ca ad) A out.1 out.2) args s 0 0 A) (F0 m 0 ls []) := by
  have hx := S.1
  have hb := S.2.1
  unfold mM_end at hf
  refine lv_aload_n (pc := 0) hx hb dM_end_0 rfl (lv_at hl 0 rfl) ?_
  refine lv_iload_n (pc := 1) hx hb dM_end_1 rfl (lv_at hl 1 rfl) ?_
  refine lv_iconst (pc := 2) (v := (0 : Int32)) hx hb dM_end_2 (by decide) ?_
  refine lv_iconst (pc := 3) (v := (2 : Int32)) hx hb dM_end_3 (by decide) ?_
  have hg := jbn_e hf; clear hf; obtain ⟨q1, h2, hf⟩ := hg
  refine j_cpi (pc := 4) (v := q1) (va_runS (As := [.int x1, .int (0 : Int32), .int (2 : Int32)]) (rest := [.ref (ad 0)]) S (kM_within l D ca ad _ σ x1 (0 : Int32) (2 : Int32) q1 h2) (cwS 3 S.2.2.2.2 (jgS k_680 k_681 k_7 k_682) rfl rfl rfl (by decide +kernel) ⟨Nat.le_of_ble_eq_true rfl, Nat.le_of_ble_eq_true rfl⟩) (j_preS hw mN_b (mN_to hN hw hA)) rfl rfl hl.1 rfl (lv_room (Nat.le_of_ble_eq_true rfl)) dM_end_4 ⟨Nat.le_of_ble_eq_true rfl, Nat.le_of_ble_eq_true rfl⟩) ?_
  refine lv_if_ne (pc := 7) (tgt := 14) hx hb dM_end_7 (by decide) (fun hc => ?_) (fun hc => ?_)
  · replace hf := jif hf hc
    refine lv_aload_n (pc := 14) hx hb dM_end_14 rfl (lv_at hl 0 rfl) ?_
    refine j_get (pc := 15) (v := .int (σ 100 5)) S hw inM 0 6 8 mg_0 rfl (by decide) k_604 rfl dM_end_15 ?_
    refine lv_if_ne (pc := 18) (tgt := 29) hx hb dM_end_18 (by decide) (fun hc => ?_) (fun hc => ?_)
    · replace hf := jif hf hc
      exact wmM_end_J29 hA S hN hr hlk out σ x1 x2 _ (lv_sub hl [0, 1, 2] rfl) hw hf
    · replace hf := jit hf hc
      refine lv_aload_n (pc := 21) hx hb dM_end_21 rfl (lv_at hl 0 rfl) ?_
      refine lv_iload_n (pc := 22) hx hb dM_end_22 rfl (lv_at hl 1 rfl) ?_
      have hg := jbn_e hf; clear hf; obtain ⟨q9, h10, hf⟩ := hg
      refine j_cpi (pc := 23) (v := q9) (va_runV (As := [.int x1]) (rest := [.ref (ad 0)]) S (kM_changesOf l D ca ad _ σ x1 q9 h10) (cwV 1 S.2.2.2.2 (jgV k_699 k_701 ks_19 k_7 k_702) rfl rfl rfl (by decide +kernel) ⟨Nat.le_of_ble_eq_true rfl, Nat.le_of_ble_eq_true rfl⟩) (j_preV (As := [.int x1]) hw mN_b (mN_to hN hw hA) rfl mg_0) rfl rfl hl.1 rfl (lv_room (Nat.le_of_ble_eq_true rfl)) dM_end_23 ⟨Nat.le_of_ble_eq_true rfl, Nat.le_of_ble_eq_true rfl⟩) ?_
      refine lv_if_ne (pc := 26) (tgt := 33) hx hb dM_end_26 (by decide) (fun hc => ?_) (fun hc => ?_)
      · replace hf := jif hf hc
        refine lv_iconst (pc := 33) (v := (0 : Int32)) hx hb dM_end_33 (by decide) ?_
        exact wmM_end_J34 hA S hN hr hlk out σ x1 x2 (0 : Int32) _ (lv_sub hl [0, 1, 2] rfl) hw hf
      · replace hf := jit hf hc
        exact wmM_end_J29 hA S hN hr hlk out σ x1 x2 _ (lv_sub hl [0, 1, 2] rfl) hw hf
  · replace hf := jit hf hc
    refine lv_iconst (pc := 10) (v := (1 : Int32)) hx hb dM_end_10 (by decide) ?_
    refine lv_goto (pc := 11) (tgt := 34) hx hb dM_end_11 (by decide) ?_
    exact wmM_end_J34 hA S hN hr hlk out σ x1 x2 (1 : Int32) _ (lv_sub hl [0, 1, 2] rfl) hw hf
set_option maxHeartbeats 4000000 in
set_option maxRecDepth 100000 in
theorem kM_end (l : Launch) (D : va_G) (ca : Nat → ClassId) (ad : Nat → Nat) (sz : Nat) (σ : JS) (x1 : Int32) (x2 : Int32) (out : Int32 × JS) (hf : mM_end σ x1 x2 = some out) : Met l yM_end wsM_end rmM_end (jPre D (mT ca) (mC ca ad σ) (mN (va_A (mC ca ad σ) sz)) sz [.ref (ad 0), .int x1, .int x2]) (jQi D (mT ca) (mC ca ad) (va_A (mC ca ad σ) sz) out.1 out.2) 0 0 (va_A (mC ca ad σ) sz) := by
  refine Met.ofW (cc := cM_end) (maxL := 3) (ret := some .int) (by decide) rfl ?_
  intro p e s m args below meth c s₁ B hml hv
  obtain ⟨rfl, hsz, hP, hK, hD0, hN⟩ := hv
  subst hsz
  have hl := lv_entry [.ref (ad 0), .int x1, .int x2] (n := 3) (Nat.le_of_ble_eq_true rfl)
  rw [lg_entry_eq]
  generalize (lg_sl [.ref (ad 0), .int x1, .int x2] ++ List.replicate (3 - (lg_sl [.ref (ad 0), .int x1, .int x2]).length) Slot.unset).toArray = ls at hl ⊢
  exact bM_end (fun q h => Or.inr h) ⟨B.exec, B.bytes, hml, findClass_of_methodNamed B.named, fun w h => atoms_spec (ws := wsM_end) B.pre w (List.mem_cons_of_mem _ h)⟩ hN B.returns B.notSynchronized out σ x1 x2 ls hl ⟨hP, hD0.self, va_S.rf, hK⟩ hf

def rmM_save : Room := { frames := 2, cells := 0, slots := 0, locals := 50 }
def mM_save_J46 (σ : JS) (x1 : Int32) (x2 : Int32) (y0 : Int32) : Option (Int32 × JS) :=
  jst (jw2 σ 100 0 y0) fun σ3 =>
  if (σ3 100 0) ≤ 0 then
  (jwr σ3 12 4 x2 x1 fun σ5 =>
  jwr σ5 13 4 x2 (σ5 100 2) fun σ8 =>
  some ((σ8 100 2), σ8))
  else
  (some ((0 : Int32), σ3))
def mM_save_J18 (σ : JS) (x1 : Int32) (x2 : Int32) : Option (Int32 × JS) :=
  mM_save_J46 σ x1 x2 (1 : Int32)
def mM_save_J41 (σ : JS) (x1 : Int32) (x2 : Int32) : Option (Int32 × JS) :=
  mM_save_J46 σ x1 x2 (2 : Int32)
def mM_save (σ : JS) (x1 : Int32) (x2 : Int32) : Option (Int32 × JS) :=
  jbn (mM_isFile σ x1) fun q1 =>
  if q1 = 0 then
  (mM_save_J18 σ x1 x2)
  else
  (jbn (mM_within σ x2 (0 : Int32) (3 : Int32)) fun q11 =>
  if q11 = 0 then
  (mM_save_J18 σ x1 x2)
  else
  (if (σ 100 5) = 0 then
  (jbn (mM_isOn σ x1 (σ 100 2)) fun q13 =>
  if q13 = 0 then
  (mM_save_J46 σ x1 x2 (0 : Int32))
  else
  (mM_save_J41 σ x1 x2))
  else
  (mM_save_J41 σ x1 x2)))
set_option maxHeartbeats 4000000 in
set_option maxRecDepth 100000 in
theorem wmM_save_J46 {p : Program} {l : Launch} {e : Env} {s : State} {m : MethodId} {args : Array Value} {below : List Frame} {meth : Method} {c : Code} {D : va_G} {ca : Nat → ClassId} {ad : Nat → Nat} {A : Nat → Prop} (hA : ∀ q, s.heap.size ≤ q → A q) (S : CallFix p m c cM_save 3 s args jall RM) (hN : mN A s) (hr : meth.sig.returnType = some .int) (hlk : meth.locks = false) (out : Int32 × JS) (σ : JS) (x1 : Int32) (x2 : Int32) (y0 : Int32) (ls : Array Slot) (hl : lv_has ls 3 [(0, .ref (ad 0)), (1, .int x1), (2, .int x2)]) (hw : jH D (mT ca) (mC ca ad σ) A s.heap s.heap [] s) (hf : mM_save_J46 σ x1 x2 y0 = some out) : W p l e (headSpec wsM_save rmM_save).room s m args below meth c s.heap [] 0 0 (MQ below (jQi D (mT ca) (mC ca ad) A out.1 out.2) args s 0 0 A) (F0 m 46 ls [.int y0, .ref (ad 0)]) := by
  have hx := S.1
  have hb := S.2.1
  unfold mM_save_J46 at hf
  have hg := jst_e hf; clear hf; obtain ⟨σ3, e4, hf⟩ := hg
  refine j_put (pc := 46) (v := .int y0) (ws' := mC ca ad σ3) S hw inM tyM tyM_ok nmM 0 6 0 mg_0 rfl (by decide) k_596 rfl rfl rfl (Nat.le_of_ble_eq_true rfl) (by rw [e4]; exact mp_0) dM_save_46 (fun H locs hw => ?_)
  refine lv_aload_n (pc := 49) hx hb dM_save_49 rfl (lv_at hl 0 rfl) ?_
  refine j_get (pc := 50) (v := .int (σ3 100 0)) S hw inM 0 6 0 mg_0 rfl (by decide) k_596 rfl dM_save_50 ?_
  refine lv_if_le (pc := 53) (tgt := 58) hx hb dM_save_53 (by decide) (fun hc => ?_) (fun hc => ?_)
  · replace hf := jit hf hc
    refine lv_aload_n (pc := 58) hx hb dM_save_58 rfl (lv_at hl 0 rfl) ?_
    refine j_get (pc := 59) (v := .ref (ad 12)) S hw inM 0 6 18 mg_0 rfl (by decide) k_614 rfl dM_save_59 ?_
    refine lv_iload_n (pc := 62) hx hb dM_save_62 rfl (lv_at hl 2 rfl) ?_
    refine lv_iload_n (pc := 63) hx hb dM_save_63 rfl (lv_at hl 1 rfl) ?_
    have hg := jwr_e hf; clear hf; obtain ⟨h6, σ5, e7, hf⟩ := hg
    refine j_iast (pc := 64) (ws' := mC ca ad σ5) S hw 12 11 mg_12 mt_12 h6 (by rw [e7]; exact ms_12) dM_save_64 (fun H locs hw => ?_)
    refine lv_aload_n (pc := 65) hx hb dM_save_65 rfl (lv_at hl 0 rfl) ?_
    refine j_get (pc := 66) (v := .ref (ad 13)) S hw inM 0 6 19 mg_0 rfl (by decide) k_615 rfl dM_save_66 ?_
    refine lv_iload_n (pc := 69) hx hb dM_save_69 rfl (lv_at hl 2 rfl) ?_
    refine lv_aload_n (pc := 70) hx hb dM_save_70 rfl (lv_at hl 0 rfl) ?_
    refine j_get (pc := 71) (v := .int (σ5 100 2)) S hw inM 0 6 5 mg_0 rfl (by decide) k_601 rfl dM_save_71 ?_
    have hg := jwr_e hf; clear hf; obtain ⟨h9, σ8, e10, hf⟩ := hg
    refine j_iast (pc := 74) (ws' := mC ca ad σ8) S hw 13 12 mg_13 mt_13 h9 (by rw [e10]; exact ms_13) dM_save_74 (fun H locs hw => ?_)
    refine lv_aload_n (pc := 75) hx hb dM_save_75 rfl (lv_at hl 0 rfl) ?_
    refine j_get (pc := 76) (v := .int (σ8 100 2)) S hw inM 0 6 5 mg_0 rfl (by decide) k_601 rfl dM_save_76 ?_
    obtain rfl := jsm hf
    exact j_iret (pc := 79) S hw hr hlk dM_save_79
  · replace hf := jif hf hc
    refine lv_iconst (pc := 56) (v := (0 : Int32)) hx hb dM_save_56 (by decide) ?_
    obtain rfl := jsm hf
    exact j_iret (pc := 57) S hw hr hlk dM_save_57
set_option maxHeartbeats 4000000 in
set_option maxRecDepth 100000 in
theorem wmM_save_J18 {p : Program} {l : Launch} {e : Env} {s : State} {m : MethodId} {args : Array Value} {below : List Frame} {meth : Method} {c : Code} {D : va_G} {ca : Nat → ClassId} {ad : Nat → Nat} {A : Nat → Prop} (hA : ∀ q, s.heap.size ≤ q → A q) (S : CallFix p m c cM_save 3 s args jall RM) (hN : mN A s) (hr : meth.sig.returnType = some .int) (hlk : meth.locks = false) (out : Int32 × JS) (σ : JS) (x1 : Int32) (x2 : Int32) (ls : Array Slot) (hl : lv_has ls 3 [(0, .ref (ad 0)), (1, .int x1), (2, .int x2)]) (hw : jH D (mT ca) (mC ca ad σ) A s.heap s.heap [] s) (hf : mM_save_J18 σ x1 x2 = some out) : W p l e (headSpec wsM_save rmM_save).room s m args below meth c s.heap [] 0 0 (MQ below (jQi D (mT ca) (mC ca ad) A out.1 out.2) args s 0 0 A) (F0 m 18 ls [.ref (ad 0)]) := by
  have hx := S.1
  have hb := S.2.1
  unfold mM_save_J18 at hf
  refine lv_iconst (pc := 18) (v := (1 : Int32)) hx hb dM_save_18 (by decide) ?_
  refine lv_goto (pc := 19) (tgt := 46) hx hb dM_save_19 (by decide) ?_
  exact wmM_save_J46 hA S hN hr hlk out σ x1 x2 (1 : Int32) _ (lv_sub hl [0, 1, 2] rfl) hw hf
set_option maxHeartbeats 4000000 in
set_option maxRecDepth 100000 in
theorem wmM_save_J41 {p : Program} {l : Launch} {e : Env} {s : State} {m : MethodId} {args : Array Value} {below : List Frame} {meth : Method} {c : Code} {D : va_G} {ca : Nat → ClassId} {ad : Nat → Nat} {A : Nat → Prop} (hA : ∀ q, s.heap.size ≤ q → A q) (S : CallFix p m c cM_save 3 s args jall RM) (hN : mN A s) (hr : meth.sig.returnType = some .int) (hlk : meth.locks = false) (out : Int32 × JS) (σ : JS) (x1 : Int32) (x2 : Int32) (ls : Array Slot) (hl : lv_has ls 3 [(0, .ref (ad 0)), (1, .int x1), (2, .int x2)]) (hw : jH D (mT ca) (mC ca ad σ) A s.heap s.heap [] s) (hf : mM_save_J41 σ x1 x2 = some out) : W p l e (headSpec wsM_save rmM_save).room s m args below meth c s.heap [] 0 0 (MQ below (jQi D (mT ca) (mC ca ad) A out.1 out.2) args s 0 0 A) (F0 m 41 ls [.ref (ad 0)]) := by
  have hx := S.1
  have hb := S.2.1
  unfold mM_save_J41 at hf
  refine lv_iconst (pc := 41) (v := (2 : Int32)) hx hb dM_save_41 (by decide) ?_
  refine lv_goto (pc := 42) (tgt := 46) hx hb dM_save_42 (by decide) ?_
  exact wmM_save_J46 hA S hN hr hlk out σ x1 x2 (2 : Int32) _ (lv_sub hl [0, 1, 2] rfl) hw hf
set_option maxHeartbeats 4000000 in
set_option maxRecDepth 100000 in
theorem bM_save {p : Program} {l : Launch} {e : Env} {s : State} {m : MethodId} {args : Array Value} {below : List Frame} {meth : Method} {c : Code} {D : va_G} {ca : Nat → ClassId} {ad : Nat → Nat} {A : Nat → Prop} (hA : ∀ q, s.heap.size ≤ q → A q) (S : CallFix p m c cM_save 3 s args jall RM) (hN : mN A s) (hr : meth.sig.returnType = some .int) (hlk : meth.locks = false) (out : Int32 × JS) (σ : JS) (x1 : Int32) (x2 : Int32) (ls : Array Slot) (hl : lv_has ls 3 [(0, .ref (ad 0)), (1, .int x1), (2, .int x2)]) (hw : jH D (mT ca) (mC ca ad σ) A s.heap s.heap [] s) (hf : mM_save σ x1 x2 = some out) : W p l e (headSpec wsM_save rmM_save).room s m args below meth c s.heap [] 0 0 (MQ below (jQi D (mT ca) (mC ca ad) A out.1 out.2) args s 0 0 A) (F0 m 0 ls []) := by
  have hx := S.1
  have hb := S.2.1
  unfold mM_save at hf
  refine lv_aload_n (pc := 0) hx hb dM_save_0 rfl (lv_at hl 0 rfl) ?_
  refine lv_aload_n (pc := 1) hx hb dM_save_1 rfl (lv_at hl 0 rfl) ?_
  refine lv_iload_n (pc := 2) hx hb dM_save_2 rfl (lv_at hl 1 rfl) ?_
  have hg := jbn_e hf; clear hf; obtain ⟨q1, h2, hf⟩ := hg
  refine j_cpi (pc := 3) (v := q1) (va_runV (As := [.int x1]) (rest := [.ref (ad 0)]) S (kM_isFile l D ca ad _ σ x1 q1 h2) (cwV 1 S.2.2.2.2 (jgV k_691 k_693 ks_17 k_7 k_694) rfl rfl rfl (by decide +kernel) ⟨Nat.le_of_ble_eq_true rfl, Nat.le_of_ble_eq_true rfl⟩) (j_preV (As := [.int x1]) hw mN_b (mN_to hN hw hA) rfl mg_0) rfl rfl hl.1 rfl (lv_room (Nat.le_of_ble_eq_true rfl)) dM_save_3 ⟨Nat.le_of_ble_eq_true rfl, Nat.le_of_ble_eq_true rfl⟩) ?_
  refine lv_if_eq (pc := 6) (tgt := 18) hx hb dM_save_6 (by decide) (fun hc => ?_) (fun hc => ?_)
  · replace hf := jit hf hc
    exact wmM_save_J18 hA S hN hr hlk out σ x1 x2 _ (lv_sub hl [0, 1, 2] rfl) hw hf
  · replace hf := jif hf hc
    refine lv_iload_n (pc := 9) hx hb dM_save_9 rfl (lv_at hl 2 rfl) ?_
    refine lv_iconst (pc := 10) (v := (0 : Int32)) hx hb dM_save_10 (by decide) ?_
    refine lv_iconst (pc := 11) (v := (3 : Int32)) hx hb dM_save_11 (by decide) ?_
    have hg := jbn_e hf; clear hf; obtain ⟨q11, h12, hf⟩ := hg
    refine j_cpi (pc := 12) (v := q11) (va_runS (As := [.int x2, .int (0 : Int32), .int (3 : Int32)]) (rest := [.ref (ad 0)]) S (kM_within l D ca ad _ σ x2 (0 : Int32) (3 : Int32) q11 h12) (cwS 3 S.2.2.2.2 (jgS k_680 k_681 k_7 k_682) rfl rfl rfl (by decide +kernel) ⟨Nat.le_of_ble_eq_true rfl, Nat.le_of_ble_eq_true rfl⟩) (j_preS hw mN_b (mN_to hN hw hA)) rfl rfl hl.1 rfl (lv_room (Nat.le_of_ble_eq_true rfl)) dM_save_12 ⟨Nat.le_of_ble_eq_true rfl, Nat.le_of_ble_eq_true rfl⟩) ?_
    refine lv_if_ne (pc := 15) (tgt := 22) hx hb dM_save_15 (by decide) (fun hc => ?_) (fun hc => ?_)
    · replace hf := jif hf hc
      refine lv_aload_n (pc := 22) hx hb dM_save_22 rfl (lv_at hl 0 rfl) ?_
      refine j_get (pc := 23) (v := .int (σ 100 5)) S hw inM 0 6 8 mg_0 rfl (by decide) k_604 rfl dM_save_23 ?_
      refine lv_if_ne (pc := 26) (tgt := 41) hx hb dM_save_26 (by decide) (fun hc => ?_) (fun hc => ?_)
      · replace hf := jif hf hc
        exact wmM_save_J41 hA S hN hr hlk out σ x1 x2 _ (lv_sub hl [0, 1, 2] rfl) hw hf
      · replace hf := jit hf hc
        refine lv_aload_n (pc := 29) hx hb dM_save_29 rfl (lv_at hl 0 rfl) ?_
        refine lv_iload_n (pc := 30) hx hb dM_save_30 rfl (lv_at hl 1 rfl) ?_
        refine lv_aload_n (pc := 31) hx hb dM_save_31 rfl (lv_at hl 0 rfl) ?_
        refine j_get (pc := 32) (v := .int (σ 100 2)) S hw inM 0 6 5 mg_0 rfl (by decide) k_601 rfl dM_save_32 ?_
        have hg := jbn_e hf; clear hf; obtain ⟨q13, h14, hf⟩ := hg
        refine j_cpi (pc := 35) (v := q13) (va_runV (As := [.int x1, .int (σ 100 2)]) (rest := [.ref (ad 0)]) S (kM_isOn l D ca ad _ σ x1 (σ 100 2) q13 h14) (cwV 2 S.2.2.2.2 (jgV k_756 k_758 ks_30 k_7 k_759) rfl rfl rfl (by decide +kernel) ⟨Nat.le_of_ble_eq_true rfl, Nat.le_of_ble_eq_true rfl⟩) (j_preV (As := [.int x1, .int (σ 100 2)]) hw mN_b (mN_to hN hw hA) rfl mg_0) rfl rfl hl.1 rfl (lv_room (Nat.le_of_ble_eq_true rfl)) dM_save_35 ⟨Nat.le_of_ble_eq_true rfl, Nat.le_of_ble_eq_true rfl⟩) ?_
        refine lv_if_eq (pc := 38) (tgt := 45) hx hb dM_save_38 (by decide) (fun hc => ?_) (fun hc => ?_)
        · replace hf := jit hf hc
          refine lv_iconst (pc := 45) (v := (0 : Int32)) hx hb dM_save_45 (by decide) ?_
          exact wmM_save_J46 hA S hN hr hlk out σ x1 x2 (0 : Int32) _ (lv_sub hl [0, 1, 2] rfl) hw hf
        · replace hf := jif hf hc
          exact wmM_save_J41 hA S hN hr hlk out σ x1 x2 _ (lv_sub hl [0, 1, 2] rfl) hw hf
    · replace hf := jit hf hc
      exact wmM_save_J18 hA S hN hr hlk out σ x1 x2 _ (lv_sub hl [0, 1, 2] rfl) hw hf
set_option maxHeartbeats 4000000 in
set_option maxRecDepth 100000 in
theorem kM_save (l : Launch) (D : va_G) (ca : Nat → ClassId) (ad : Nat → Nat) (sz : Nat) (σ : JS) (x1 : Int32) (x2 : Int32) (out : Int32 × JS) (hf : mM_save σ x1 x2 = some out) : Met l yM_save wsM_save rmM_save (jPre D (mT ca) (mC ca ad σ) (mN (va_A (mC ca ad σ) sz)) sz [.ref (ad 0), .int x1, .int x2]) (jQi D (mT ca) (mC ca ad) (va_A (mC ca ad σ) sz) out.1 out.2) 0 0 (va_A (mC ca ad σ) sz) := by
  refine Met.ofW (cc := cM_save) (maxL := 3) (ret := some .int) (by decide) rfl ?_
  intro p e s m args below meth c s₁ B hml hv
  obtain ⟨rfl, hsz, hP, hK, hD0, hN⟩ := hv
  subst hsz
  have hl := lv_entry [.ref (ad 0), .int x1, .int x2] (n := 3) (Nat.le_of_ble_eq_true rfl)
  rw [lg_entry_eq]
  generalize (lg_sl [.ref (ad 0), .int x1, .int x2] ++ List.replicate (3 - (lg_sl [.ref (ad 0), .int x1, .int x2]).length) Slot.unset).toArray = ls at hl ⊢
  exact bM_save (fun q h => Or.inr h) ⟨B.exec, B.bytes, hml, findClass_of_methodNamed B.named, fun w h => atoms_spec (ws := wsM_save) B.pre w (List.mem_cons_of_mem _ h)⟩ hN B.returns B.notSynchronized out σ x1 x2 ls hl ⟨hP, hD0.self, va_S.rf, hK⟩ hf

