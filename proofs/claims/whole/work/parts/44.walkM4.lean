def rmM_remove : Room := { frames := 4, cells := 0, slots := 0, locals := 101 }
def mM_remove_J62 (σ : JS) (x1 : Int32) (x2 : Int32) (x3 : Int32) (y0 : Int32) : Option (Int32 × JS) :=
  if (σ 100 5) = 0 then
  (if y0 ≤ x2 then
  (jbn (mM_refuse σ (2 : Int32)) fun q13 =>
  some (q13.1, q13.2))
  else
  (jbn (mM_isOn σ x1 (σ 100 2)) fun q15 =>
  if q15 = 0 then
  (jbn (mM_isOn σ x1 x2) fun q19 =>
  if q19 = 0 then
  (jbn (mM_lacks σ x1 x2 y0) fun q23 =>
  if q23 = 0 then
  (if x3 = 0 then
  (jrd σ 3 3 x1 fun v25 =>
  jbn (mM_become σ x1 x2 v25) fun q28 =>
  some (q28.1, q28.2))
  else
  (jbn (mM_become σ x1 x2 ((σ 100 2) + (1 : Int32))) fun q30 =>
  some (q30.1, q30.2)))
  else
  (jbn (mM_refuse σ (2 : Int32)) fun q32 =>
  some (q32.1, q32.2)))
  else
  (jbn (mM_refuse σ (2 : Int32)) fun q21 =>
  some (q21.1, q21.2)))
  else
  (jbn (mM_refuse σ (2 : Int32)) fun q17 =>
  some (q17.1, q17.2))))
  else
  (jbn (mM_refuse σ (2 : Int32)) fun q11 =>
  some (q11.1, q11.2))
def mM_remove_J44 (σ : JS) (x1 : Int32) (x2 : Int32) (y0 : Int32) : Option (Int32 × JS) :=
  if y0 = 0 then
  (jrd σ 2 3 x1 fun v8 =>
  mM_remove_J62 σ x1 x2 y0 v8)
  else
  (mM_remove_J62 σ x1 x2 y0 (σ 100 2))
def mM_remove_J18 (σ : JS) (x1 : Int32) (x2 : Int32) (y0 : Int32) : Option (Int32 × JS) :=
  jst (jw2 σ 100 0 y0) fun σ3 =>
  if (σ3 100 0) ≤ 0 then
  (jrd σ3 2 3 x1 fun v5 =>
  if 0 ≤ v5 then
  (mM_remove_J44 σ3 x1 x2 (0 : Int32))
  else
  (mM_remove_J44 σ3 x1 x2 (1 : Int32)))
  else
  (some ((0 : Int32), σ3))
def mM_remove_J17 (σ : JS) (x1 : Int32) (x2 : Int32) : Option (Int32 × JS) :=
  mM_remove_J18 σ x1 x2 (1 : Int32)
def mM_remove (σ : JS) (x1 : Int32) (x2 : Int32) : Option (Int32 × JS) :=
  jbn (mM_isFile σ x1) fun q1 =>
  if q1 = 0 then
  (mM_remove_J17 σ x1 x2)
  else
  (if x2 < 0 then
  (mM_remove_J17 σ x1 x2)
  else
  (mM_remove_J18 σ x1 x2 (0 : Int32)))
set_option maxHeartbeats 4000000 in
set_option maxRecDepth 100000 in
theorem wmM_remove_J62g {p : Program} {l : Launch} {e : Env} {s : State} {m : MethodId} {args : Array Value} {below : List Frame} {meth : Method} {c : Code} {D : va_G} {ca : Nat → ClassId} {ad : Nat → Nat} {A : Nat → Prop} (hA : ∀ q, s.heap.size ≤ q → A q) (S : CallFix p m c cM_remove 5 s args jall RM) (hN : mN A s) (hr : meth.sig.returnType = some .int) (hlk : meth.locks = false) (out : Int32 × JS) (σ : JS) (x1 : Int32) (x2 : Int32) (x3 : Int32) (y0 : Int32) (ls : Array Slot) (H : Heap) (locs : List Loc) (hl : lv_has ls 5 [(0, .ref (ad 0)), (1, .int x1), (2, .int x2), (3, .int x3)]) (hw : jH D (mT ca) (mC ca ad σ) A s.heap H locs s) (hf : mM_remove_J62 σ x1 x2 x3 y0 = some out) : W p l e (headSpec wsM_remove rmM_remove).room s m args below meth c H locs 0 0 (MQ below (jQi D (mT ca) (mC ca ad) A out.1 out.2) args s 0 0 A) (F0 m 62 ls [.int y0]) := by
  have hx := S.1
  have hb := S.2.1
  unfold mM_remove_J62 at hf
  refine lv_istore (pc := 62) (lv' := [(4, .int y0), (0, .ref (ad 0)), (1, .int x1), (2, .int x2), (3, .int x3)]) hx hb dM_remove_62 hl (by decide) rfl (fun ls hl => ?_)
  refine lv_aload_n (pc := 64) hx hb dM_remove_64 rfl (lv_at hl 1 rfl) ?_
  refine j_get (pc := 65) (v := .int (σ 100 5)) S hw inM 0 6 8 mg_0 rfl (by decide) k_604 rfl dM_remove_65 ?_
  refine lv_if_ne (pc := 68) (tgt := 109) hx hb dM_remove_68 (by decide) (fun hc => ?_) (fun hc => ?_)
  · replace hf := jif hf hc
    refine lv_aload_n (pc := 109) hx hb dM_remove_109 rfl (lv_at hl 1 rfl) ?_
    refine lv_iconst (pc := 110) (v := (2 : Int32)) hx hb dM_remove_110 (by decide) ?_
    have hg := jbn_e hf; clear hf; obtain ⟨q11, h12, hf⟩ := hg
    refine j_calli (pc := 111) (C := mC ca ad) (σ' := q11.2) (v := q11.1) hw hA (va_runV (As := [.int (2 : Int32)]) (rest := []) S (kM_refuse l D ca ad _ σ (2 : Int32) q11 h12) (cwV 1 S.2.2.2.2 (jgV k_715 k_717 ks_25 k_7 k_718) rfl rfl rfl (by decide +kernel) ⟨Nat.le_of_ble_eq_true rfl, Nat.le_of_ble_eq_true rfl⟩) (j_preV (As := [.int (2 : Int32)]) hw mN_b (mN_to hN hw hA) rfl mg_0) rfl rfl hl.1 rfl (lv_room (Nat.le_of_ble_eq_true rfl)) dM_remove_111 ⟨Nat.le_of_ble_eq_true rfl, Nat.le_of_ble_eq_true rfl⟩) (fun H locs hw => ?_)
    obtain rfl := jsm hf
    exact j_iret (pc := 114) S hw hr hlk dM_remove_114
  · replace hf := jit hf hc
    refine lv_iload_n (pc := 71) hx hb dM_remove_71 rfl (lv_at hl 3 rfl) ?_
    refine lv_iload (pc := 72) hx hb dM_remove_72 (lv_at hl 0 rfl) ?_
    refine lv_icmp_ge (pc := 74) (tgt := 109) hx hb dM_remove_74 (by decide) (fun hc => ?_) (fun hc => ?_)
    · replace hf := jit hf hc
      refine lv_aload_n (pc := 109) hx hb dM_remove_109 rfl (lv_at hl 1 rfl) ?_
      refine lv_iconst (pc := 110) (v := (2 : Int32)) hx hb dM_remove_110 (by decide) ?_
      have hg := jbn_e hf; clear hf; obtain ⟨q13, h14, hf⟩ := hg
      refine j_calli (pc := 111) (C := mC ca ad) (σ' := q13.2) (v := q13.1) hw hA (va_runV (As := [.int (2 : Int32)]) (rest := []) S (kM_refuse l D ca ad _ σ (2 : Int32) q13 h14) (cwV 1 S.2.2.2.2 (jgV k_715 k_717 ks_25 k_7 k_718) rfl rfl rfl (by decide +kernel) ⟨Nat.le_of_ble_eq_true rfl, Nat.le_of_ble_eq_true rfl⟩) (j_preV (As := [.int (2 : Int32)]) hw mN_b (mN_to hN hw hA) rfl mg_0) rfl rfl hl.1 rfl (lv_room (Nat.le_of_ble_eq_true rfl)) dM_remove_111 ⟨Nat.le_of_ble_eq_true rfl, Nat.le_of_ble_eq_true rfl⟩) (fun H locs hw => ?_)
      obtain rfl := jsm hf
      exact j_iret (pc := 114) S hw hr hlk dM_remove_114
    · replace hf := jif hf hc
      refine lv_aload_n (pc := 77) hx hb dM_remove_77 rfl (lv_at hl 1 rfl) ?_
      refine lv_iload_n (pc := 78) hx hb dM_remove_78 rfl (lv_at hl 2 rfl) ?_
      refine lv_aload_n (pc := 79) hx hb dM_remove_79 rfl (lv_at hl 1 rfl) ?_
      refine j_get (pc := 80) (v := .int (σ 100 2)) S hw inM 0 6 5 mg_0 rfl (by decide) k_601 rfl dM_remove_80 ?_
      have hg := jbn_e hf; clear hf; obtain ⟨q15, h16, hf⟩ := hg
      refine j_cpi (pc := 83) (v := q15) (va_runV (As := [.int x1, .int (σ 100 2)]) (rest := []) S (kM_isOn l D ca ad _ σ x1 (σ 100 2) q15 h16) (cwV 2 S.2.2.2.2 (jgV k_756 k_758 ks_30 k_7 k_759) rfl rfl rfl (by decide +kernel) ⟨Nat.le_of_ble_eq_true rfl, Nat.le_of_ble_eq_true rfl⟩) (j_preV (As := [.int x1, .int (σ 100 2)]) hw mN_b (mN_to hN hw hA) rfl mg_0) rfl rfl hl.1 rfl (lv_room (Nat.le_of_ble_eq_true rfl)) dM_remove_83 ⟨Nat.le_of_ble_eq_true rfl, Nat.le_of_ble_eq_true rfl⟩) ?_
      refine lv_if_ne (pc := 86) (tgt := 109) hx hb dM_remove_86 (by decide) (fun hc => ?_) (fun hc => ?_)
      · replace hf := jif hf hc
        refine lv_aload_n (pc := 109) hx hb dM_remove_109 rfl (lv_at hl 1 rfl) ?_
        refine lv_iconst (pc := 110) (v := (2 : Int32)) hx hb dM_remove_110 (by decide) ?_
        have hg := jbn_e hf; clear hf; obtain ⟨q17, h18, hf⟩ := hg
        refine j_calli (pc := 111) (C := mC ca ad) (σ' := q17.2) (v := q17.1) hw hA (va_runV (As := [.int (2 : Int32)]) (rest := []) S (kM_refuse l D ca ad _ σ (2 : Int32) q17 h18) (cwV 1 S.2.2.2.2 (jgV k_715 k_717 ks_25 k_7 k_718) rfl rfl rfl (by decide +kernel) ⟨Nat.le_of_ble_eq_true rfl, Nat.le_of_ble_eq_true rfl⟩) (j_preV (As := [.int (2 : Int32)]) hw mN_b (mN_to hN hw hA) rfl mg_0) rfl rfl hl.1 rfl (lv_room (Nat.le_of_ble_eq_true rfl)) dM_remove_111 ⟨Nat.le_of_ble_eq_true rfl, Nat.le_of_ble_eq_true rfl⟩) (fun H locs hw => ?_)
        obtain rfl := jsm hf
        exact j_iret (pc := 114) S hw hr hlk dM_remove_114
      · replace hf := jit hf hc
        refine lv_aload_n (pc := 89) hx hb dM_remove_89 rfl (lv_at hl 1 rfl) ?_
        refine lv_iload_n (pc := 90) hx hb dM_remove_90 rfl (lv_at hl 2 rfl) ?_
        refine lv_iload_n (pc := 91) hx hb dM_remove_91 rfl (lv_at hl 3 rfl) ?_
        have hg := jbn_e hf; clear hf; obtain ⟨q19, h20, hf⟩ := hg
        refine j_cpi (pc := 92) (v := q19) (va_runV (As := [.int x1, .int x2]) (rest := []) S (kM_isOn l D ca ad _ σ x1 x2 q19 h20) (cwV 2 S.2.2.2.2 (jgV k_756 k_758 ks_30 k_7 k_759) rfl rfl rfl (by decide +kernel) ⟨Nat.le_of_ble_eq_true rfl, Nat.le_of_ble_eq_true rfl⟩) (j_preV (As := [.int x1, .int x2]) hw mN_b (mN_to hN hw hA) rfl mg_0) rfl rfl hl.1 rfl (lv_room (Nat.le_of_ble_eq_true rfl)) dM_remove_92 ⟨Nat.le_of_ble_eq_true rfl, Nat.le_of_ble_eq_true rfl⟩) ?_
        refine lv_if_ne (pc := 95) (tgt := 109) hx hb dM_remove_95 (by decide) (fun hc => ?_) (fun hc => ?_)
        · replace hf := jif hf hc
          refine lv_aload_n (pc := 109) hx hb dM_remove_109 rfl (lv_at hl 1 rfl) ?_
          refine lv_iconst (pc := 110) (v := (2 : Int32)) hx hb dM_remove_110 (by decide) ?_
          have hg := jbn_e hf; clear hf; obtain ⟨q21, h22, hf⟩ := hg
          refine j_calli (pc := 111) (C := mC ca ad) (σ' := q21.2) (v := q21.1) hw hA (va_runV (As := [.int (2 : Int32)]) (rest := []) S (kM_refuse l D ca ad _ σ (2 : Int32) q21 h22) (cwV 1 S.2.2.2.2 (jgV k_715 k_717 ks_25 k_7 k_718) rfl rfl rfl (by decide +kernel) ⟨Nat.le_of_ble_eq_true rfl, Nat.le_of_ble_eq_true rfl⟩) (j_preV (As := [.int (2 : Int32)]) hw mN_b (mN_to hN hw hA) rfl mg_0) rfl rfl hl.1 rfl (lv_room (Nat.le_of_ble_eq_true rfl)) dM_remove_111 ⟨Nat.le_of_ble_eq_true rfl, Nat.le_of_ble_eq_true rfl⟩) (fun H locs hw => ?_)
          obtain rfl := jsm hf
          exact j_iret (pc := 114) S hw hr hlk dM_remove_114
        · replace hf := jit hf hc
          refine lv_aload_n (pc := 98) hx hb dM_remove_98 rfl (lv_at hl 1 rfl) ?_
          refine lv_iload_n (pc := 99) hx hb dM_remove_99 rfl (lv_at hl 2 rfl) ?_
          refine lv_iload_n (pc := 100) hx hb dM_remove_100 rfl (lv_at hl 3 rfl) ?_
          refine lv_iload (pc := 101) hx hb dM_remove_101 (lv_at hl 0 rfl) ?_
          have hg := jbn_e hf; clear hf; obtain ⟨q23, h24, hf⟩ := hg
          refine j_cpi (pc := 103) (v := q23) (va_runV (As := [.int x1, .int x2, .int y0]) (rest := []) S (kM_lacks l D ca ad _ σ x1 x2 y0 q23 h24) (cwV 3 S.2.2.2.2 (jgV k_772 k_774 ks_32 k_7 k_775) rfl rfl rfl (by decide +kernel) ⟨Nat.le_of_ble_eq_true rfl, Nat.le_of_ble_eq_true rfl⟩) (j_preV (As := [.int x1, .int x2, .int y0]) hw mN_b (mN_to hN hw hA) rfl mg_0) rfl rfl hl.1 rfl (lv_room (Nat.le_of_ble_eq_true rfl)) dM_remove_103 ⟨Nat.le_of_ble_eq_true rfl, Nat.le_of_ble_eq_true rfl⟩) ?_
          refine lv_if_eq (pc := 106) (tgt := 115) hx hb dM_remove_106 (by decide) (fun hc => ?_) (fun hc => ?_)
          · replace hf := jit hf hc
            refine lv_aload_n (pc := 115) hx hb dM_remove_115 rfl (lv_at hl 1 rfl) ?_
            refine lv_iload_n (pc := 116) hx hb dM_remove_116 rfl (lv_at hl 2 rfl) ?_
            refine lv_iload_n (pc := 117) hx hb dM_remove_117 rfl (lv_at hl 3 rfl) ?_
            refine lv_iload_n (pc := 118) hx hb dM_remove_118 rfl (lv_at hl 4 rfl) ?_
            refine lv_if_eq (pc := 119) (tgt := 131) hx hb dM_remove_119 (by decide) (fun hc => ?_) (fun hc => ?_)
            · replace hf := jit hf hc
              refine lv_aload_n (pc := 131) hx hb dM_remove_131 rfl (lv_at hl 1 rfl) ?_
              refine j_get (pc := 132) (v := .ref (ad 3)) S hw inM 0 6 4 mg_0 rfl (by decide) k_600 rfl dM_remove_132 ?_
              refine lv_iload_n (pc := 135) hx hb dM_remove_135 rfl (lv_at hl 2 rfl) ?_
              have hg := jrd_e hf; clear hf; obtain ⟨h26, v25, e27, hf⟩ := hg
              refine j_iald (pc := 136) S hw 3 2 mg_3 mt_3 h26 e27 dM_remove_136 ?_
              have hg := jbn_e hf; clear hf; obtain ⟨q28, h29, hf⟩ := hg
              refine j_calli (pc := 137) (C := mC ca ad) (σ' := q28.2) (v := q28.1) hw hA (va_runV (As := [.int x1, .int x2, .int v25]) (rest := []) S (kM_become l D ca ad _ σ x1 x2 v25 q28 h29) (cwV 3 S.2.2.2.2 (jgV k_764 k_766 ks_31 k_7 k_767) rfl rfl rfl (by decide +kernel) ⟨Nat.le_of_ble_eq_true rfl, Nat.le_of_ble_eq_true rfl⟩) (j_preV (As := [.int x1, .int x2, .int v25]) hw mN_b (mN_to hN hw hA) rfl mg_0) rfl rfl hl.1 rfl (lv_room (Nat.le_of_ble_eq_true rfl)) dM_remove_137 ⟨Nat.le_of_ble_eq_true rfl, Nat.le_of_ble_eq_true rfl⟩) (fun H locs hw => ?_)
              obtain rfl := jsm hf
              exact j_iret (pc := 140) S hw hr hlk dM_remove_140
            · replace hf := jif hf hc
              refine lv_aload_n (pc := 122) hx hb dM_remove_122 rfl (lv_at hl 1 rfl) ?_
              refine j_get (pc := 123) (v := .int (σ 100 2)) S hw inM 0 6 5 mg_0 rfl (by decide) k_601 rfl dM_remove_123 ?_
              refine lv_iconst (pc := 126) (v := (1 : Int32)) hx hb dM_remove_126 (by decide) ?_
              refine lv_iadd (pc := 127) hx hb dM_remove_127 ?_
              refine lv_goto (pc := 128) (tgt := 137) hx hb dM_remove_128 (by decide) ?_
              have hg := jbn_e hf; clear hf; obtain ⟨q30, h31, hf⟩ := hg
              refine j_calli (pc := 137) (C := mC ca ad) (σ' := q30.2) (v := q30.1) hw hA (va_runV (As := [.int x1, .int x2, .int ((σ 100 2) + (1 : Int32))]) (rest := []) S (kM_become l D ca ad _ σ x1 x2 ((σ 100 2) + (1 : Int32)) q30 h31) (cwV 3 S.2.2.2.2 (jgV k_764 k_766 ks_31 k_7 k_767) rfl rfl rfl (by decide +kernel) ⟨Nat.le_of_ble_eq_true rfl, Nat.le_of_ble_eq_true rfl⟩) (j_preV (As := [.int x1, .int x2, .int ((σ 100 2) + (1 : Int32))]) hw mN_b (mN_to hN hw hA) rfl mg_0) rfl rfl hl.1 rfl (lv_room (Nat.le_of_ble_eq_true rfl)) dM_remove_137 ⟨Nat.le_of_ble_eq_true rfl, Nat.le_of_ble_eq_true rfl⟩) (fun H locs hw => ?_)
              obtain rfl := jsm hf
              exact j_iret (pc := 140) S hw hr hlk dM_remove_140
          · replace hf := jif hf hc
            refine lv_aload_n (pc := 109) hx hb dM_remove_109 rfl (lv_at hl 1 rfl) ?_
            refine lv_iconst (pc := 110) (v := (2 : Int32)) hx hb dM_remove_110 (by decide) ?_
            have hg := jbn_e hf; clear hf; obtain ⟨q32, h33, hf⟩ := hg
            refine j_calli (pc := 111) (C := mC ca ad) (σ' := q32.2) (v := q32.1) hw hA (va_runV (As := [.int (2 : Int32)]) (rest := []) S (kM_refuse l D ca ad _ σ (2 : Int32) q32 h33) (cwV 1 S.2.2.2.2 (jgV k_715 k_717 ks_25 k_7 k_718) rfl rfl rfl (by decide +kernel) ⟨Nat.le_of_ble_eq_true rfl, Nat.le_of_ble_eq_true rfl⟩) (j_preV (As := [.int (2 : Int32)]) hw mN_b (mN_to hN hw hA) rfl mg_0) rfl rfl hl.1 rfl (lv_room (Nat.le_of_ble_eq_true rfl)) dM_remove_111 ⟨Nat.le_of_ble_eq_true rfl, Nat.le_of_ble_eq_true rfl⟩) (fun H locs hw => ?_)
            obtain rfl := jsm hf
            exact j_iret (pc := 114) S hw hr hlk dM_remove_114
set_option maxHeartbeats 4000000 in
set_option maxRecDepth 100000 in
theorem wmM_remove_J44g {p : Program} {l : Launch} {e : Env} {s : State} {m : MethodId} {args : Array Value} {below : List Frame} {meth : Method} {c : Code} {D : va_G} {ca : Nat → ClassId} {ad : Nat → Nat} {A : Nat → Prop} (hA : ∀ q, s.heap.size ≤ q → A q) (S : CallFix p m c cM_remove 5 s args jall RM) (hN : mN A s) (hr : meth.sig.returnType = some .int) (hlk : meth.locks = false) (out : Int32 × JS) (σ : JS) (x1 : Int32) (x2 : Int32) (y0 : Int32) (ls : Array Slot) (H : Heap) (locs : List Loc) (hl : lv_has ls 5 [(0, .ref (ad 0)), (1, .int x1), (2, .int x2)]) (hw : jH D (mT ca) (mC ca ad σ) A s.heap H locs s) (hf : mM_remove_J44 σ x1 x2 y0 = some out) : W p l e (headSpec wsM_remove rmM_remove).room s m args below meth c H locs 0 0 (MQ below (jQi D (mT ca) (mC ca ad) A out.1 out.2) args s 0 0 A) (F0 m 44 ls [.int y0]) := by
  have hx := S.1
  have hb := S.2.1
  unfold mM_remove_J44 at hf
  refine lv_istore_n (pc := 44) (lv' := [(3, .int y0), (0, .ref (ad 0)), (1, .int x1), (2, .int x2)]) hx hb dM_remove_44 rfl hl (by decide) rfl (fun ls hl => ?_)
  refine lv_iload_n (pc := 45) hx hb dM_remove_45 rfl (lv_at hl 0 rfl) ?_
  refine lv_if_eq (pc := 46) (tgt := 56) hx hb dM_remove_46 (by decide) (fun hc => ?_) (fun hc => ?_)
  · replace hf := jit hf hc
    refine lv_aload_n (pc := 56) hx hb dM_remove_56 rfl (lv_at hl 1 rfl) ?_
    refine j_get (pc := 57) (v := .ref (ad 2)) S hw inM 0 6 3 mg_0 rfl (by decide) k_599 rfl dM_remove_57 ?_
    refine lv_iload_n (pc := 60) hx hb dM_remove_60 rfl (lv_at hl 2 rfl) ?_
    have hg := jrd_e hf; clear hf; obtain ⟨h9, v8, e10, hf⟩ := hg
    refine j_iald (pc := 61) S hw 2 1 mg_2 mt_2 h9 e10 dM_remove_61 ?_
    exact wmM_remove_J62g hA S hN hr hlk out σ x1 x2 y0 v8 _ _ _ (lv_sub hl [1, 2, 3, 0] rfl) hw hf
  · replace hf := jif hf hc
    refine lv_aload_n (pc := 49) hx hb dM_remove_49 rfl (lv_at hl 1 rfl) ?_
    refine j_get (pc := 50) (v := .int (σ 100 2)) S hw inM 0 6 5 mg_0 rfl (by decide) k_601 rfl dM_remove_50 ?_
    refine lv_goto (pc := 53) (tgt := 62) hx hb dM_remove_53 (by decide) ?_
    exact wmM_remove_J62g hA S hN hr hlk out σ x1 x2 y0 (σ 100 2) _ _ _ (lv_sub hl [1, 2, 3, 0] rfl) hw hf
set_option maxHeartbeats 4000000 in
set_option maxRecDepth 100000 in
theorem wmM_remove_J18 {p : Program} {l : Launch} {e : Env} {s : State} {m : MethodId} {args : Array Value} {below : List Frame} {meth : Method} {c : Code} {D : va_G} {ca : Nat → ClassId} {ad : Nat → Nat} {A : Nat → Prop} (hA : ∀ q, s.heap.size ≤ q → A q) (S : CallFix p m c cM_remove 5 s args jall RM) (hN : mN A s) (hr : meth.sig.returnType = some .int) (hlk : meth.locks = false) (out : Int32 × JS) (σ : JS) (x1 : Int32) (x2 : Int32) (y0 : Int32) (ls : Array Slot) (hl : lv_has ls 5 [(0, .ref (ad 0)), (1, .int x1), (2, .int x2)]) (hw : jH D (mT ca) (mC ca ad σ) A s.heap s.heap [] s) (hf : mM_remove_J18 σ x1 x2 y0 = some out) : W p l e (headSpec wsM_remove rmM_remove).room s m args below meth c s.heap [] 0 0 (MQ below (jQi D (mT ca) (mC ca ad) A out.1 out.2) args s 0 0 A) (F0 m 18 ls [.int y0, .ref (ad 0)]) := by
  have hx := S.1
  have hb := S.2.1
  unfold mM_remove_J18 at hf
  have hg := jst_e hf; clear hf; obtain ⟨σ3, e4, hf⟩ := hg
  refine j_put (pc := 18) (v := .int y0) (ws' := mC ca ad σ3) S hw inM tyM tyM_ok nmM 0 6 0 mg_0 rfl (by decide) k_596 rfl rfl rfl (Nat.le_of_ble_eq_true rfl) (by rw [e4]; exact mp_0) dM_remove_18 (fun H locs hw => ?_)
  refine lv_aload_n (pc := 21) hx hb dM_remove_21 rfl (lv_at hl 0 rfl) ?_
  refine j_get (pc := 22) (v := .int (σ3 100 0)) S hw inM 0 6 0 mg_0 rfl (by decide) k_596 rfl dM_remove_22 ?_
  refine lv_if_le (pc := 25) (tgt := 30) hx hb dM_remove_25 (by decide) (fun hc => ?_) (fun hc => ?_)
  · replace hf := jit hf hc
    refine lv_aload_n (pc := 30) hx hb dM_remove_30 rfl (lv_at hl 0 rfl) ?_
    refine j_get (pc := 31) (v := .ref (ad 2)) S hw inM 0 6 3 mg_0 rfl (by decide) k_599 rfl dM_remove_31 ?_
    refine lv_iload_n (pc := 34) hx hb dM_remove_34 rfl (lv_at hl 1 rfl) ?_
    have hg := jrd_e hf; clear hf; obtain ⟨h6, v5, e7, hf⟩ := hg
    refine j_iald (pc := 35) S hw 2 1 mg_2 mt_2 h6 e7 dM_remove_35 ?_
    refine lv_if_ge (pc := 36) (tgt := 43) hx hb dM_remove_36 (by decide) (fun hc => ?_) (fun hc => ?_)
    · replace hf := jit hf hc
      refine lv_iconst (pc := 43) (v := (0 : Int32)) hx hb dM_remove_43 (by decide) ?_
      exact wmM_remove_J44g hA S hN hr hlk out σ3 x1 x2 (0 : Int32) _ _ _ (lv_sub hl [0, 1, 2] rfl) hw hf
    · replace hf := jif hf hc
      refine lv_iconst (pc := 39) (v := (1 : Int32)) hx hb dM_remove_39 (by decide) ?_
      refine lv_goto (pc := 40) (tgt := 44) hx hb dM_remove_40 (by decide) ?_
      exact wmM_remove_J44g hA S hN hr hlk out σ3 x1 x2 (1 : Int32) _ _ _ (lv_sub hl [0, 1, 2] rfl) hw hf
  · replace hf := jif hf hc
    refine lv_iconst (pc := 28) (v := (0 : Int32)) hx hb dM_remove_28 (by decide) ?_
    obtain rfl := jsm hf
    exact j_iret (pc := 29) S hw hr hlk dM_remove_29
set_option maxHeartbeats 4000000 in
set_option maxRecDepth 100000 in
theorem wmM_remove_J17 {p : Program} {l : Launch} {e : Env} {s : State} {m : MethodId} {args : Array Value} {below : List Frame} {meth : Method} {c : Code} {D : va_G} {ca : Nat → ClassId} {ad : Nat → Nat} {A : Nat → Prop} (hA : ∀ q, s.heap.size ≤ q → A q) (S : CallFix p m c cM_remove 5 s args jall RM) (hN : mN A s) (hr : meth.sig.returnType = some .int) (hlk : meth.locks = false) (out : Int32 × JS) (σ : JS) (x1 : Int32) (x2 : Int32) (ls : Array Slot) (hl : lv_has ls 5 [(0, .ref (ad 0)), (1, .int x1), (2, .int x2)]) (hw : jH D (mT ca) (mC ca ad σ) A s.heap s.heap [] s) (hf : mM_remove_J17 σ x1 x2 = some out) : W p l e (headSpec wsM_remove rmM_remove).room s m args below meth c s.heap [] 0 0 (MQ below (jQi D (mT ca) (mC ca ad) A out.1 out.2) args s 0 0 A) (F0 m 17 ls [.ref (ad 0)]) := by
  have hx := S.1
  have hb := S.2.1
  unfold mM_remove_J17 at hf
  refine lv_iconst (pc := 17) (v := (1 : Int32)) hx hb dM_remove_17 (by decide) ?_
  exact wmM_remove_J18 hA S hN hr hlk out σ x1 x2 (1 : Int32) _ (lv_sub hl [0, 1, 2] rfl) hw hf
set_option maxHeartbeats 4000000 in
set_option maxRecDepth 100000 in
theorem bM_remove {p : Program} {l : Launch} {e : Env} {s : State} {m : MethodId} {args : Array Value} {below : List Frame} {meth : Method} {c : Code} {D : va_G} {ca : Nat → ClassId} {ad : Nat → Nat} {A : Nat → Prop} (hA : ∀ q, s.heap.size ≤ q → A q) (S : CallFix p m c cM_remove 5 s args jall RM) (hN : mN A s) (hr : meth.sig.returnType = some .int) (hlk : meth.locks = false) (out : Int32 × JS) (σ : JS) (x1 : Int32) (x2 : Int32) (ls : Array Slot) (hl : lv_has ls 5 [(0, .ref (ad 0)), (1, .int x1), (2, .int x2)]) (hw : jH D (mT ca) (mC ca ad σ) A s.heap s.heap [] s) (hf : mM_remove σ x1 x2 = some out) : W p l e (headSpec wsM_remove rmM_remove).room s m args below meth c s.heap [] 0 0 (MQ below (jQi D (mT ca) (mC ca ad) A out.1 out.2) args s 0 0 A) (F0 m 0 ls []) := by
  have hx := S.1
  have hb := S.2.1
  unfold mM_remove at hf
  refine lv_aload_n (pc := 0) hx hb dM_remove_0 rfl (lv_at hl 0 rfl) ?_
  refine lv_aload_n (pc := 1) hx hb dM_remove_1 rfl (lv_at hl 0 rfl) ?_
  refine lv_iload_n (pc := 2) hx hb dM_remove_2 rfl (lv_at hl 1 rfl) ?_
  have hg := jbn_e hf; clear hf; obtain ⟨q1, h2, hf⟩ := hg
  refine j_cpi (pc := 3) (v := q1) (va_runV (As := [.int x1]) (rest := [.ref (ad 0)]) S (kM_isFile l D ca ad _ σ x1 q1 h2) (cwV 1 S.2.2.2.2 (jgV k_691 k_693 ks_17 k_7 k_694) rfl rfl rfl (by decide +kernel) ⟨Nat.le_of_ble_eq_true rfl, Nat.le_of_ble_eq_true rfl⟩) (j_preV (As := [.int x1]) hw mN_b (mN_to hN hw hA) rfl mg_0) rfl rfl hl.1 rfl (lv_room (Nat.le_of_ble_eq_true rfl)) dM_remove_3 ⟨Nat.le_of_ble_eq_true rfl, Nat.le_of_ble_eq_true rfl⟩) ?_
  refine lv_if_eq (pc := 6) (tgt := 17) hx hb dM_remove_6 (by decide) (fun hc => ?_) (fun hc => ?_)
  · replace hf := jit hf hc
    exact wmM_remove_J17 hA S hN hr hlk out σ x1 x2 _ (lv_sub hl [0, 1, 2] rfl) hw hf
  · replace hf := jif hf hc
    refine lv_iload_n (pc := 9) hx hb dM_remove_9 rfl (lv_at hl 2 rfl) ?_
    refine lv_if_lt (pc := 10) (tgt := 17) hx hb dM_remove_10 (by decide) (fun hc => ?_) (fun hc => ?_)
    · replace hf := jit hf hc
      exact wmM_remove_J17 hA S hN hr hlk out σ x1 x2 _ (lv_sub hl [0, 1, 2] rfl) hw hf
    · replace hf := jif hf hc
      refine lv_iconst (pc := 13) (v := (0 : Int32)) hx hb dM_remove_13 (by decide) ?_
      refine lv_goto (pc := 14) (tgt := 18) hx hb dM_remove_14 (by decide) ?_
      exact wmM_remove_J18 hA S hN hr hlk out σ x1 x2 (0 : Int32) _ (lv_sub hl [0, 1, 2] rfl) hw hf
set_option maxHeartbeats 4000000 in
set_option maxRecDepth 100000 in
theorem kM_remove (l : Launch) (D : va_G) (ca : Nat → ClassId) (ad : Nat → Nat) (sz : Nat) (σ : JS) (x1 : Int32) (x2 : Int32) (out : Int32 × JS) (hf : mM_remove σ x1 x2 = some out) : Met l yM_remove wsM_remove rmM_remove (jPre D (mT ca) (mC ca ad σ) (mN (va_A (mC ca ad σ) sz)) sz [.ref (ad 0), .int x1, .int x2]) (jQi D (mT ca) (mC ca ad) (va_A (mC ca ad σ) sz) out.1 out.2) 0 0 (va_A (mC ca ad σ) sz) := by
  refine Met.ofW (cc := cM_remove) (maxL := 5) (ret := some .int) (by decide) rfl ?_
  intro p e s m args below meth c s₁ B hml hv
  obtain ⟨rfl, hsz, hP, hK, hD0, hN⟩ := hv
  subst hsz
  have hl := lv_entry [.ref (ad 0), .int x1, .int x2] (n := 5) (Nat.le_of_ble_eq_true rfl)
  rw [lg_entry_eq]
  generalize (lg_sl [.ref (ad 0), .int x1, .int x2] ++ List.replicate (5 - (lg_sl [.ref (ad 0), .int x1, .int x2]).length) Slot.unset).toArray = ls at hl ⊢
  exact bM_remove (fun q h => Or.inr h) ⟨B.exec, B.bytes, hml, findClass_of_methodNamed B.named, fun w h => atoms_spec (ws := wsM_remove) B.pre w (List.mem_cons_of_mem _ h)⟩ hN B.returns B.notSynchronized out σ x1 x2 ls hl ⟨hP, hD0.self, va_S.rf, hK⟩ hf

def rmM_number : Room := { frames := 2, cells := 0, slots := 0, locals := 43 }
def mM_number (σ : JS) (x1 : Int32) : Option (Int32 × JS) :=
  jst (jw2 σ 100 0 (0 : Int32)) fun σ1 =>
  jbn (mM_isFile σ1 x1) fun q3 =>
  if q3 = 0 then
  (some ((-1 : Int32), σ1))
  else
  (jrd σ1 2 3 x1 fun v5 =>
  some (v5, σ1))
set_option maxHeartbeats 4000000 in
set_option maxRecDepth 100000 in
theorem bM_number {p : Program} {l : Launch} {e : Env} {s : State} {m : MethodId} {args : Array Value} {below : List Frame} {meth : Method} {c : Code} {D : va_G} {ca : Nat → ClassId} {ad : Nat → Nat} {A : Nat → Prop} (hA : ∀ q, s.heap.size ≤ q → A q) (S : CallFix p m c cM_number 2 s args jall RM) (hN : mN A s) (hr : meth.sig.returnType = some .int) (hlk : meth.locks = false) (out : Int32 × JS) (σ : JS) (x1 : Int32) (ls : Array Slot) (hl : lv_has ls 2 [(0, .ref (ad 0)), (1, .int x1)]) (hw : jH D (mT ca) (mC ca ad σ) A s.heap s.heap [] s) (hf : mM_number σ x1 = some out) : W p l e (headSpec wsM_number rmM_number).room s m args below meth c s.heap [] 0 0 (MQ below (jQi D (mT ca) (mC ca ad) A out.1 out.2) args s 0 0 A) (F0 m 0 ls []) := by
  have hx := S.1
  have hb := S.2.1
  unfold mM_number at hf
  refine lv_aload_n (pc := 0) hx hb dM_number_0 rfl (lv_at hl 0 rfl) ?_
  refine lv_iconst (pc := 1) (v := (0 : Int32)) hx hb dM_number_1 (by decide) ?_
  have hg := jst_e hf; clear hf; obtain ⟨σ1, e2, hf⟩ := hg
  refine j_put (pc := 2) (v := .int (0 : Int32)) (ws' := mC ca ad σ1) S hw inM tyM tyM_ok nmM 0 6 0 mg_0 rfl (by decide) k_596 rfl rfl rfl (Nat.le_of_ble_eq_true rfl) (by rw [e2]; exact mp_0) dM_number_2 (fun H locs hw => ?_)
  refine lv_aload_n (pc := 5) hx hb dM_number_5 rfl (lv_at hl 0 rfl) ?_
  refine lv_iload_n (pc := 6) hx hb dM_number_6 rfl (lv_at hl 1 rfl) ?_
  have hg := jbn_e hf; clear hf; obtain ⟨q3, h4, hf⟩ := hg
  refine j_cpi (pc := 7) (v := q3) (va_runV (As := [.int x1]) (rest := []) S (kM_isFile l D ca ad _ σ1 x1 q3 h4) (cwV 1 S.2.2.2.2 (jgV k_691 k_693 ks_17 k_7 k_694) rfl rfl rfl (by decide +kernel) ⟨Nat.le_of_ble_eq_true rfl, Nat.le_of_ble_eq_true rfl⟩) (j_preV (As := [.int x1]) hw mN_b (mN_to hN hw hA) rfl mg_0) rfl rfl hl.1 rfl (lv_room (Nat.le_of_ble_eq_true rfl)) dM_number_7 ⟨Nat.le_of_ble_eq_true rfl, Nat.le_of_ble_eq_true rfl⟩) ?_
  refine lv_if_eq (pc := 10) (tgt := 22) hx hb dM_number_10 (by decide) (fun hc => ?_) (fun hc => ?_)
  · replace hf := jit hf hc
    refine lv_iconst (pc := 22) (v := (-1 : Int32)) hx hb dM_number_22 (by decide) ?_
    obtain rfl := jsm hf
    exact j_iret (pc := 23) S hw hr hlk dM_number_23
  · replace hf := jif hf hc
    refine lv_aload_n (pc := 13) hx hb dM_number_13 rfl (lv_at hl 0 rfl) ?_
    refine j_get (pc := 14) (v := .ref (ad 2)) S hw inM 0 6 3 mg_0 rfl (by decide) k_599 rfl dM_number_14 ?_
    refine lv_iload_n (pc := 17) hx hb dM_number_17 rfl (lv_at hl 1 rfl) ?_
    have hg := jrd_e hf; clear hf; obtain ⟨h6, v5, e7, hf⟩ := hg
    refine j_iald (pc := 18) S hw 2 1 mg_2 mt_2 h6 e7 dM_number_18 ?_
    refine lv_goto (pc := 19) (tgt := 23) hx hb dM_number_19 (by decide) ?_
    obtain rfl := jsm hf
    exact j_iret (pc := 23) S hw hr hlk dM_number_23
set_option maxHeartbeats 4000000 in
set_option maxRecDepth 100000 in
theorem kM_number (l : Launch) (D : va_G) (ca : Nat → ClassId) (ad : Nat → Nat) (sz : Nat) (σ : JS) (x1 : Int32) (out : Int32 × JS) (hf : mM_number σ x1 = some out) : Met l yM_number wsM_number rmM_number (jPre D (mT ca) (mC ca ad σ) (mN (va_A (mC ca ad σ) sz)) sz [.ref (ad 0), .int x1]) (jQi D (mT ca) (mC ca ad) (va_A (mC ca ad σ) sz) out.1 out.2) 0 0 (va_A (mC ca ad σ) sz) := by
  refine Met.ofW (cc := cM_number) (maxL := 2) (ret := some .int) (by decide) rfl ?_
  intro p e s m args below meth c s₁ B hml hv
  obtain ⟨rfl, hsz, hP, hK, hD0, hN⟩ := hv
  subst hsz
  have hl := lv_entry [.ref (ad 0), .int x1] (n := 2) (Nat.le_of_ble_eq_true rfl)
  rw [lg_entry_eq]
  generalize (lg_sl [.ref (ad 0), .int x1] ++ List.replicate (2 - (lg_sl [.ref (ad 0), .int x1]).length) Slot.unset).toArray = ls at hl ⊢
  exact bM_number (fun q h => Or.inr h) ⟨B.exec, B.bytes, hml, findClass_of_methodNamed B.named, fun w h => atoms_spec (ws := wsM_number) B.pre w (List.mem_cons_of_mem _ h)⟩ hN B.returns B.notSynchronized out σ x1 ls hl ⟨hP, hD0.self, va_S.rf, hK⟩ hf

def rmM_last : Room := { frames := 0, cells := 0, slots := 0, locals := 0 }
def mM_last (σ : JS)  : Option (Int32 × JS) :=
  jst (jw2 σ 100 0 (0 : Int32)) fun σ1 =>
  some ((σ1 100 2), σ1)
set_option maxHeartbeats 4000000 in
set_option maxRecDepth 100000 in
theorem bM_last {p : Program} {l : Launch} {e : Env} {s : State} {m : MethodId} {args : Array Value} {below : List Frame} {meth : Method} {c : Code} {D : va_G} {ca : Nat → ClassId} {ad : Nat → Nat} {A : Nat → Prop} (hA : ∀ q, s.heap.size ≤ q → A q) (S : CallFix p m c cM_last 1 s args jall RM) (hN : mN A s) (hr : meth.sig.returnType = some .int) (hlk : meth.locks = false) (out : Int32 × JS) (σ : JS)  (ls : Array Slot) (hl : lv_has ls 1 [(0, .ref (ad 0))]) (hw : jH D (mT ca) (mC ca ad σ) A s.heap s.heap [] s) (hf : mM_last σ  = some out) : W p l e (headSpec wsM_last rmM_last).room s m args below meth c s.heap [] 0 0 (MQ below (jQi D (mT ca) (mC ca ad) A out.1 out.2) args s 0 0 A) (F0 m 0 ls []) := by
  have hx := S.1
  have hb := S.2.1
  unfold mM_last at hf
  refine lv_aload_n (pc := 0) hx hb dM_last_0 rfl (lv_at hl 0 rfl) ?_
  refine lv_iconst (pc := 1) (v := (0 : Int32)) hx hb dM_last_1 (by decide) ?_
  have hg := jst_e hf; clear hf; obtain ⟨σ1, e2, hf⟩ := hg
  refine j_put (pc := 2) (v := .int (0 : Int32)) (ws' := mC ca ad σ1) S hw inM tyM tyM_ok nmM 0 6 0 mg_0 rfl (by decide) k_596 rfl rfl rfl (Nat.le_of_ble_eq_true rfl) (by rw [e2]; exact mp_0) dM_last_2 (fun H locs hw => ?_)
  refine lv_aload_n (pc := 5) hx hb dM_last_5 rfl (lv_at hl 0 rfl) ?_
  refine j_get (pc := 6) (v := .int (σ1 100 2)) S hw inM 0 6 5 mg_0 rfl (by decide) k_601 rfl dM_last_6 ?_
  obtain rfl := jsm hf
  exact j_iret (pc := 9) S hw hr hlk dM_last_9
set_option maxHeartbeats 4000000 in
set_option maxRecDepth 100000 in
theorem kM_last (l : Launch) (D : va_G) (ca : Nat → ClassId) (ad : Nat → Nat) (sz : Nat) (σ : JS)  (out : Int32 × JS) (hf : mM_last σ  = some out) : Met l yM_last wsM_last rmM_last (jPre D (mT ca) (mC ca ad σ) (mN (va_A (mC ca ad σ) sz)) sz [.ref (ad 0)]) (jQi D (mT ca) (mC ca ad) (va_A (mC ca ad σ) sz) out.1 out.2) 0 0 (va_A (mC ca ad σ) sz) := by
  refine Met.ofW (cc := cM_last) (maxL := 1) (ret := some .int) (by decide) rfl ?_
  intro p e s m args below meth c s₁ B hml hv
  obtain ⟨rfl, hsz, hP, hK, hD0, hN⟩ := hv
  subst hsz
  have hl := lv_entry [.ref (ad 0)] (n := 1) (Nat.le_of_ble_eq_true rfl)
  rw [lg_entry_eq]
  generalize (lg_sl [.ref (ad 0)] ++ List.replicate (1 - (lg_sl [.ref (ad 0)]).length) Slot.unset).toArray = ls at hl ⊢
  exact bM_last (fun q h => Or.inr h) ⟨B.exec, B.bytes, hml, findClass_of_methodNamed B.named, fun w h => atoms_spec (ws := wsM_last) B.pre w (List.mem_cons_of_mem _ h)⟩ hN B.returns B.notSynchronized out σ  ls hl ⟨hP, hD0.self, va_S.rf, hK⟩ hf

def rmM_boundary : Room := { frames := 2, cells := 0, slots := 0, locals := 50 }
def mM_boundary (σ : JS) (x1 : Int32) (x2 : Int32) : Option (Int32 × JS) :=
  jst (jw2 σ 100 0 (0 : Int32)) fun σ1 =>
  jbn (mM_isFile σ1 x1) fun q3 =>
  if q3 = 0 then
  (some ((0 : Int32), σ1))
  else
  (jbn (mM_within σ1 x2 (0 : Int32) (σ1 100 2)) fun q5 =>
  if q5 = 0 then
  (some ((0 : Int32), σ1))
  else
  (jbn (mM_isOn σ1 x1 x2) fun q7 =>
  if q7 = 0 then
  (some ((1 : Int32), σ1))
  else
  (some ((0 : Int32), σ1))))
set_option maxHeartbeats 4000000 in
set_option maxRecDepth 100000 in
theorem bM_boundary {p : Program} {l : Launch} {e : Env} {s : State} {m : MethodId} {args : Array Value} {below : List Frame} {meth : Method} {c : Code} {D : va_G} {ca : Nat → ClassId} {ad : Nat → Nat} {A : Nat → Prop} (hA : ∀ q, s.heap.size ≤ q → A q) (S : CallFix p m c cM_boundary 3 s args jall RM) (hN : mN A s) (hr : meth.sig.returnType = some .boolean) (hlk : meth.locks = false) (out : Int32 × JS) (σ : JS) (x1 : Int32) (x2 : Int32) (ls : Array Slot) (hl : lv_has ls 3 [(0, .ref (ad 0)), (1, .int x1), (2, .int x2)]) (hw : jH D (mT ca) (mC ca ad σ) A s.heap s.heap [] s) (hf : mM_boundary σ x1 x2 = some out) : W p l e (headSpec wsM_boundary rmM_boundary).room s m args below meth c s.heap [] 0 0 (MQ below (jQi D (mT ca) (mC ca ad) A out.1 out.2) args s 0 0 A) (F0 m 0 ls []) := by
  have hx := S.1
  have hb := S.2.1
  unfold mM_boundary at hf
  refine lv_aload_n (pc := 0) hx hb dM_boundary_0 rfl (lv_at hl 0 rfl) ?_
  refine lv_iconst (pc := 1) (v := (0 : Int32)) hx hb dM_boundary_1 (by decide) ?_
  have hg := jst_e hf; clear hf; obtain ⟨σ1, e2, hf⟩ := hg
  refine j_put (pc := 2) (v := .int (0 : Int32)) (ws' := mC ca ad σ1) S hw inM tyM tyM_ok nmM 0 6 0 mg_0 rfl (by decide) k_596 rfl rfl rfl (Nat.le_of_ble_eq_true rfl) (by rw [e2]; exact mp_0) dM_boundary_2 (fun H locs hw => ?_)
  refine lv_aload_n (pc := 5) hx hb dM_boundary_5 rfl (lv_at hl 0 rfl) ?_
  refine lv_iload_n (pc := 6) hx hb dM_boundary_6 rfl (lv_at hl 1 rfl) ?_
  have hg := jbn_e hf; clear hf; obtain ⟨q3, h4, hf⟩ := hg
  refine j_cpi (pc := 7) (v := q3) (va_runV (As := [.int x1]) (rest := []) S (kM_isFile l D ca ad _ σ1 x1 q3 h4) (cwV 1 S.2.2.2.2 (jgV k_691 k_693 ks_17 k_7 k_694) rfl rfl rfl (by decide +kernel) ⟨Nat.le_of_ble_eq_true rfl, Nat.le_of_ble_eq_true rfl⟩) (j_preV (As := [.int x1]) hw mN_b (mN_to hN hw hA) rfl mg_0) rfl rfl hl.1 rfl (lv_room (Nat.le_of_ble_eq_true rfl)) dM_boundary_7 ⟨Nat.le_of_ble_eq_true rfl, Nat.le_of_ble_eq_true rfl⟩) ?_
  refine lv_if_eq (pc := 10) (tgt := 38) hx hb dM_boundary_10 (by decide) (fun hc => ?_) (fun hc => ?_)
  · replace hf := jit hf hc
    refine lv_iconst (pc := 38) (v := (0 : Int32)) hx hb dM_boundary_38 (by decide) ?_
    obtain rfl := jsm hf
    exact j_zret (pc := 39) S hw hr hlk (Or.inl rfl) dM_boundary_39
  · replace hf := jif hf hc
    refine lv_iload_n (pc := 13) hx hb dM_boundary_13 rfl (lv_at hl 2 rfl) ?_
    refine lv_iconst (pc := 14) (v := (0 : Int32)) hx hb dM_boundary_14 (by decide) ?_
    refine lv_aload_n (pc := 15) hx hb dM_boundary_15 rfl (lv_at hl 0 rfl) ?_
    refine j_get (pc := 16) (v := .int (σ1 100 2)) S hw inM 0 6 5 mg_0 rfl (by decide) k_601 rfl dM_boundary_16 ?_
    have hg := jbn_e hf; clear hf; obtain ⟨q5, h6, hf⟩ := hg
    refine j_cpi (pc := 19) (v := q5) (va_runS (As := [.int x2, .int (0 : Int32), .int (σ1 100 2)]) (rest := []) S (kM_within l D ca ad _ σ1 x2 (0 : Int32) (σ1 100 2) q5 h6) (cwS 3 S.2.2.2.2 (jgS k_680 k_681 k_7 k_682) rfl rfl rfl (by decide +kernel) ⟨Nat.le_of_ble_eq_true rfl, Nat.le_of_ble_eq_true rfl⟩) (j_preS hw mN_b (mN_to hN hw hA)) rfl rfl hl.1 rfl (lv_room (Nat.le_of_ble_eq_true rfl)) dM_boundary_19 ⟨Nat.le_of_ble_eq_true rfl, Nat.le_of_ble_eq_true rfl⟩) ?_
    refine lv_if_eq (pc := 22) (tgt := 38) hx hb dM_boundary_22 (by decide) (fun hc => ?_) (fun hc => ?_)
    · replace hf := jit hf hc
      refine lv_iconst (pc := 38) (v := (0 : Int32)) hx hb dM_boundary_38 (by decide) ?_
      obtain rfl := jsm hf
      exact j_zret (pc := 39) S hw hr hlk (Or.inl rfl) dM_boundary_39
    · replace hf := jif hf hc
      refine lv_aload_n (pc := 25) hx hb dM_boundary_25 rfl (lv_at hl 0 rfl) ?_
      refine lv_iload_n (pc := 26) hx hb dM_boundary_26 rfl (lv_at hl 1 rfl) ?_
      refine lv_iload_n (pc := 27) hx hb dM_boundary_27 rfl (lv_at hl 2 rfl) ?_
      have hg := jbn_e hf; clear hf; obtain ⟨q7, h8, hf⟩ := hg
      refine j_cpi (pc := 28) (v := q7) (va_runV (As := [.int x1, .int x2]) (rest := []) S (kM_isOn l D ca ad _ σ1 x1 x2 q7 h8) (cwV 2 S.2.2.2.2 (jgV k_756 k_758 ks_30 k_7 k_759) rfl rfl rfl (by decide +kernel) ⟨Nat.le_of_ble_eq_true rfl, Nat.le_of_ble_eq_true rfl⟩) (j_preV (As := [.int x1, .int x2]) hw mN_b (mN_to hN hw hA) rfl mg_0) rfl rfl hl.1 rfl (lv_room (Nat.le_of_ble_eq_true rfl)) dM_boundary_28 ⟨Nat.le_of_ble_eq_true rfl, Nat.le_of_ble_eq_true rfl⟩) ?_
      refine lv_if_ne (pc := 31) (tgt := 38) hx hb dM_boundary_31 (by decide) (fun hc => ?_) (fun hc => ?_)
      · replace hf := jif hf hc
        refine lv_iconst (pc := 38) (v := (0 : Int32)) hx hb dM_boundary_38 (by decide) ?_
        obtain rfl := jsm hf
        exact j_zret (pc := 39) S hw hr hlk (Or.inl rfl) dM_boundary_39
      · replace hf := jit hf hc
        refine lv_iconst (pc := 34) (v := (1 : Int32)) hx hb dM_boundary_34 (by decide) ?_
        refine lv_goto (pc := 35) (tgt := 39) hx hb dM_boundary_35 (by decide) ?_
        obtain rfl := jsm hf
        exact j_zret (pc := 39) S hw hr hlk (Or.inr rfl) dM_boundary_39
set_option maxHeartbeats 4000000 in
set_option maxRecDepth 100000 in
theorem kM_boundary (l : Launch) (D : va_G) (ca : Nat → ClassId) (ad : Nat → Nat) (sz : Nat) (σ : JS) (x1 : Int32) (x2 : Int32) (out : Int32 × JS) (hf : mM_boundary σ x1 x2 = some out) : Met l yM_boundary wsM_boundary rmM_boundary (jPre D (mT ca) (mC ca ad σ) (mN (va_A (mC ca ad σ) sz)) sz [.ref (ad 0), .int x1, .int x2]) (jQi D (mT ca) (mC ca ad) (va_A (mC ca ad σ) sz) out.1 out.2) 0 0 (va_A (mC ca ad σ) sz) := by
  refine Met.ofW (cc := cM_boundary) (maxL := 3) (ret := some .boolean) (by decide) rfl ?_
  intro p e s m args below meth c s₁ B hml hv
  obtain ⟨rfl, hsz, hP, hK, hD0, hN⟩ := hv
  subst hsz
  have hl := lv_entry [.ref (ad 0), .int x1, .int x2] (n := 3) (Nat.le_of_ble_eq_true rfl)
  rw [lg_entry_eq]
  generalize (lg_sl [.ref (ad 0), .int x1, .int x2] ++ List.replicate (3 - (lg_sl [.ref (ad 0), .int x1, .int x2]).length) Slot.unset).toArray = ls at hl ⊢
  exact bM_boundary (fun q h => Or.inr h) ⟨B.exec, B.bytes, hml, findClass_of_methodNamed B.named, fun w h => atoms_spec (ws := wsM_boundary) B.pre w (List.mem_cons_of_mem _ h)⟩ hN B.returns B.notSynchronized out σ x1 x2 ls hl ⟨hP, hD0.self, va_S.rf, hK⟩ hf

def rmM_entry : Room := { frames := 1, cells := 0, slots := 0, locals := 22 }
def mM_entry_J41 (σ : JS) (x1 : Int32) (x2 : Int32) : Option (Int64 × JS) :=
  if x2 = 0 then
  (jrd σ 4 121 x1 fun v22 =>
  some (v22.toInt64, σ))
  else
  (if x2 = (1 : Int32) then
  (jrd σ 5 121 x1 fun v19 =>
  some (v19.toInt64, σ))
  else
  (if x2 = (2 : Int32) then
  (jrd σ 6 121 x1 fun v16 =>
  some (v16.toInt64, σ))
  else
  (if x2 = (3 : Int32) then
  (jrd σ 7 121 x1 fun v13 =>
  some (v13.toInt64, σ))
  else
  (if x2 = (4 : Int32) then
  (jrd σ 8 121 x1 fun v10 =>
  some (v10.toInt64, σ))
  else
  (jrd σ 9 121 x1 fun v7 =>
  some (v7.toInt64, σ))))))
def mM_entry (σ : JS) (x1 : Int32) (x2 : Int32) : Option (Int64 × JS) :=
  jst (jw2 σ 100 0 (0 : Int32)) fun σ1 =>
  jbn (mM_isKept σ1 x1) fun q3 =>
  if q3 = 0 then
  (some ((1099511627776 : Int64), σ1))
  else
  (jbn (mM_within σ1 x2 (0 : Int32) (5 : Int32)) fun q5 =>
  if q5 = 0 then
  (some ((1099511627776 : Int64), σ1))
  else
  (if x2 ≤ (1 : Int32) then
  (mM_entry_J41 σ1 x1 x2)
  else
  (jrd σ1 4 121 x1 fun v25 =>
  if v25 = (1 : Int32) then
  (mM_entry_J41 σ1 x1 x2)
  else
  (some ((1099511627776 : Int64), σ1)))))
set_option maxHeartbeats 4000000 in
set_option maxRecDepth 100000 in
theorem wmM_entry_J41g {p : Program} {l : Launch} {e : Env} {s : State} {m : MethodId} {args : Array Value} {below : List Frame} {meth : Method} {c : Code} {D : va_G} {ca : Nat → ClassId} {ad : Nat → Nat} {A : Nat → Prop} (hA : ∀ q, s.heap.size ≤ q → A q) (S : CallFix p m c cM_entry 3 s args jall RM) (hN : mN A s) (hr : meth.sig.returnType = some .long) (hlk : meth.locks = false) (out : Int64 × JS) (σ : JS) (x1 : Int32) (x2 : Int32) (ls : Array Slot) (H : Heap) (locs : List Loc) (hl : lv_has ls 3 [(0, .ref (ad 0)), (1, .int x1), (2, .int x2)]) (hw : jH D (mT ca) (mC ca ad σ) A s.heap H locs s) (hf : mM_entry_J41 σ x1 x2 = some out) : W p l e (headSpec wsM_entry rmM_entry).room s m args below meth c H locs 0 0 (MQ below (jQl D (mT ca) (mC ca ad) A out.1 out.2) args s 0 0 A) (F0 m 41 ls []) := by
  have hx := S.1
  have hb := S.2.1
  unfold mM_entry_J41 at hf
  refine lv_iload_n (pc := 41) hx hb dM_entry_41 rfl (lv_at hl 2 rfl) ?_
  refine lv_if_ne (pc := 42) (tgt := 55) hx hb dM_entry_42 (by decide) (fun hc => ?_) (fun hc => ?_)
  · replace hf := jif hf hc
    refine lv_iload_n (pc := 55) hx hb dM_entry_55 rfl (lv_at hl 2 rfl) ?_
    refine lv_iconst (pc := 56) (v := (1 : Int32)) hx hb dM_entry_56 (by decide) ?_
    refine lv_icmp_ne (pc := 57) (tgt := 70) hx hb dM_entry_57 (by decide) (fun hc => ?_) (fun hc => ?_)
    · replace hf := jif hf hc
      refine lv_iload_n (pc := 70) hx hb dM_entry_70 rfl (lv_at hl 2 rfl) ?_
      refine lv_iconst (pc := 71) (v := (2 : Int32)) hx hb dM_entry_71 (by decide) ?_
      refine lv_icmp_ne (pc := 72) (tgt := 85) hx hb dM_entry_72 (by decide) (fun hc => ?_) (fun hc => ?_)
      · replace hf := jif hf hc
        refine lv_iload_n (pc := 85) hx hb dM_entry_85 rfl (lv_at hl 2 rfl) ?_
        refine lv_iconst (pc := 86) (v := (3 : Int32)) hx hb dM_entry_86 (by decide) ?_
        refine lv_icmp_ne (pc := 87) (tgt := 100) hx hb dM_entry_87 (by decide) (fun hc => ?_) (fun hc => ?_)
        · replace hf := jif hf hc
          refine lv_iload_n (pc := 100) hx hb dM_entry_100 rfl (lv_at hl 2 rfl) ?_
          refine lv_iconst (pc := 101) (v := (4 : Int32)) hx hb dM_entry_101 (by decide) ?_
          refine lv_icmp_ne (pc := 102) (tgt := 115) hx hb dM_entry_102 (by decide) (fun hc => ?_) (fun hc => ?_)
          · replace hf := jif hf hc
            refine lv_aload_n (pc := 115) hx hb dM_entry_115 rfl (lv_at hl 0 rfl) ?_
            refine j_get (pc := 116) (v := .ref (ad 9)) S hw inM 0 6 14 mg_0 rfl (by decide) k_610 rfl dM_entry_116 ?_
            refine lv_iload_n (pc := 119) hx hb dM_entry_119 rfl (lv_at hl 1 rfl) ?_
            have hg := jrd_e hf; clear hf; obtain ⟨h8, v7, e9, hf⟩ := hg
            refine j_iald (pc := 120) S hw 9 8 mg_9 mt_9 h8 e9 dM_entry_120 ?_
            refine lv_i2l (pc := 121) (v := v7.toInt64) hx hb dM_entry_121 rfl ?_
            obtain rfl := jsm hf
            exact j_lret (pc := 122) S hw hr hlk dM_entry_122
          · replace hf := jit hf hc
            refine lv_aload_n (pc := 105) hx hb dM_entry_105 rfl (lv_at hl 0 rfl) ?_
            refine j_get (pc := 106) (v := .ref (ad 8)) S hw inM 0 6 13 mg_0 rfl (by decide) k_609 rfl dM_entry_106 ?_
            refine lv_iload_n (pc := 109) hx hb dM_entry_109 rfl (lv_at hl 1 rfl) ?_
            have hg := jrd_e hf; clear hf; obtain ⟨h11, v10, e12, hf⟩ := hg
            refine j_iald (pc := 110) S hw 8 7 mg_8 mt_8 h11 e12 dM_entry_110 ?_
            refine lv_i2l (pc := 111) (v := v10.toInt64) hx hb dM_entry_111 rfl ?_
            refine lv_goto (pc := 112) (tgt := 122) hx hb dM_entry_112 (by decide) ?_
            obtain rfl := jsm hf
            exact j_lret (pc := 122) S hw hr hlk dM_entry_122
        · replace hf := jit hf hc
          refine lv_aload_n (pc := 90) hx hb dM_entry_90 rfl (lv_at hl 0 rfl) ?_
          refine j_get (pc := 91) (v := .ref (ad 7)) S hw inM 0 6 12 mg_0 rfl (by decide) k_608 rfl dM_entry_91 ?_
          refine lv_iload_n (pc := 94) hx hb dM_entry_94 rfl (lv_at hl 1 rfl) ?_
          have hg := jrd_e hf; clear hf; obtain ⟨h14, v13, e15, hf⟩ := hg
          refine j_iald (pc := 95) S hw 7 6 mg_7 mt_7 h14 e15 dM_entry_95 ?_
          refine lv_i2l (pc := 96) (v := v13.toInt64) hx hb dM_entry_96 rfl ?_
          refine lv_goto (pc := 97) (tgt := 122) hx hb dM_entry_97 (by decide) ?_
          obtain rfl := jsm hf
          exact j_lret (pc := 122) S hw hr hlk dM_entry_122
      · replace hf := jit hf hc
        refine lv_aload_n (pc := 75) hx hb dM_entry_75 rfl (lv_at hl 0 rfl) ?_
        refine j_get (pc := 76) (v := .ref (ad 6)) S hw inM 0 6 11 mg_0 rfl (by decide) k_607 rfl dM_entry_76 ?_
        refine lv_iload_n (pc := 79) hx hb dM_entry_79 rfl (lv_at hl 1 rfl) ?_
        have hg := jrd_e hf; clear hf; obtain ⟨h17, v16, e18, hf⟩ := hg
        refine j_iald (pc := 80) S hw 6 5 mg_6 mt_6 h17 e18 dM_entry_80 ?_
        refine lv_i2l (pc := 81) (v := v16.toInt64) hx hb dM_entry_81 rfl ?_
        refine lv_goto (pc := 82) (tgt := 122) hx hb dM_entry_82 (by decide) ?_
        obtain rfl := jsm hf
        exact j_lret (pc := 122) S hw hr hlk dM_entry_122
    · replace hf := jit hf hc
      refine lv_aload_n (pc := 60) hx hb dM_entry_60 rfl (lv_at hl 0 rfl) ?_
      refine j_get (pc := 61) (v := .ref (ad 5)) S hw inM 0 6 10 mg_0 rfl (by decide) k_606 rfl dM_entry_61 ?_
      refine lv_iload_n (pc := 64) hx hb dM_entry_64 rfl (lv_at hl 1 rfl) ?_
      have hg := jrd_e hf; clear hf; obtain ⟨h20, v19, e21, hf⟩ := hg
      refine j_iald (pc := 65) S hw 5 4 mg_5 mt_5 h20 e21 dM_entry_65 ?_
      refine lv_i2l (pc := 66) (v := v19.toInt64) hx hb dM_entry_66 rfl ?_
      refine lv_goto (pc := 67) (tgt := 122) hx hb dM_entry_67 (by decide) ?_
      obtain rfl := jsm hf
      exact j_lret (pc := 122) S hw hr hlk dM_entry_122
  · replace hf := jit hf hc
    refine lv_aload_n (pc := 45) hx hb dM_entry_45 rfl (lv_at hl 0 rfl) ?_
    refine j_get (pc := 46) (v := .ref (ad 4)) S hw inM 0 6 9 mg_0 rfl (by decide) k_605 rfl dM_entry_46 ?_
    refine lv_iload_n (pc := 49) hx hb dM_entry_49 rfl (lv_at hl 1 rfl) ?_
    have hg := jrd_e hf; clear hf; obtain ⟨h23, v22, e24, hf⟩ := hg
    refine j_iald (pc := 50) S hw 4 3 mg_4 mt_4 h23 e24 dM_entry_50 ?_
    refine lv_i2l (pc := 51) (v := v22.toInt64) hx hb dM_entry_51 rfl ?_
    refine lv_goto (pc := 52) (tgt := 122) hx hb dM_entry_52 (by decide) ?_
    obtain rfl := jsm hf
    exact j_lret (pc := 122) S hw hr hlk dM_entry_122
set_option maxHeartbeats 4000000 in
set_option maxRecDepth 100000 in
theorem bM_entry {p : Program} {l : Launch} {e : Env} {s : State} {m : MethodId} {args : Array Value} {below : List Frame} {meth : Method} {c : Code} {D : va_G} {ca : Nat → ClassId} {ad : Nat → Nat} {A : Nat → Prop} (hA : ∀ q, s.heap.size ≤ q → A q) (S : CallFix p m c cM_entry 3 s args jall RM) (hN : mN A s) (hr : meth.sig.returnType = some .long) (hlk : meth.locks = false) (out : Int64 × JS) (σ : JS) (x1 : Int32) (x2 : Int32) (ls : Array Slot) (hl : lv_has ls 3 [(0, .ref (ad 0)), (1, .int x1), (2, .int x2)]) (hw : jH D (mT ca) (mC ca ad σ) A s.heap s.heap [] s) (hf : mM_entry σ x1 x2 = some out) : W p l e (headSpec wsM_entry rmM_entry).room s m args below meth c s.heap [] 0 0 (MQ below (jQl D (mT ca) (mC ca ad) A out.1 out.2) args s 0 0 A) (F0 m 0 ls []) := by
  have hx := S.1
  have hb := S.2.1
  unfold mM_entry at hf
  refine lv_aload_n (pc := 0) hx hb dM_entry_0 rfl (lv_at hl 0 rfl) ?_
  refine lv_iconst (pc := 1) (v := (0 : Int32)) hx hb dM_entry_1 (by decide) ?_
  have hg := jst_e hf; clear hf; obtain ⟨σ1, e2, hf⟩ := hg
  refine j_put (pc := 2) (v := .int (0 : Int32)) (ws' := mC ca ad σ1) S hw inM tyM tyM_ok nmM 0 6 0 mg_0 rfl (by decide) k_596 rfl rfl rfl (Nat.le_of_ble_eq_true rfl) (by rw [e2]; exact mp_0) dM_entry_2 (fun H locs hw => ?_)
  refine lv_aload_n (pc := 5) hx hb dM_entry_5 rfl (lv_at hl 0 rfl) ?_
  refine lv_iload_n (pc := 6) hx hb dM_entry_6 rfl (lv_at hl 1 rfl) ?_
  have hg := jbn_e hf; clear hf; obtain ⟨q3, h4, hf⟩ := hg
  refine j_cpi (pc := 7) (v := q3) (va_runV (As := [.int x1]) (rest := []) S (kM_isKept l D ca ad _ σ1 x1 q3 h4) (cwV 1 S.2.2.2.2 (jgV k_796 k_798 ks_33 k_7 k_799) rfl rfl rfl (by decide +kernel) ⟨Nat.le_of_ble_eq_true rfl, Nat.le_of_ble_eq_true rfl⟩) (j_preV (As := [.int x1]) hw mN_b (mN_to hN hw hA) rfl mg_0) rfl rfl hl.1 rfl (lv_room (Nat.le_of_ble_eq_true rfl)) dM_entry_7 ⟨Nat.le_of_ble_eq_true rfl, Nat.le_of_ble_eq_true rfl⟩) ?_
  refine lv_if_eq (pc := 10) (tgt := 37) hx hb dM_entry_10 (by decide) (fun hc => ?_) (fun hc => ?_)
  · replace hf := jit hf hc
    refine lv_ldc2 (pc := 37) (v := (1099511627776 : Int64)) hx hb S.2.2.2.1 (S.2.2.2.2 _ k_739) dM_entry_37 ?_
    obtain rfl := jsm hf
    exact j_lret (pc := 40) S hw hr hlk dM_entry_40
  · replace hf := jif hf hc
    refine lv_iload_n (pc := 13) hx hb dM_entry_13 rfl (lv_at hl 2 rfl) ?_
    refine lv_iconst (pc := 14) (v := (0 : Int32)) hx hb dM_entry_14 (by decide) ?_
    refine lv_iconst (pc := 15) (v := (5 : Int32)) hx hb dM_entry_15 (by decide) ?_
    have hg := jbn_e hf; clear hf; obtain ⟨q5, h6, hf⟩ := hg
    refine j_cpi (pc := 16) (v := q5) (va_runS (As := [.int x2, .int (0 : Int32), .int (5 : Int32)]) (rest := []) S (kM_within l D ca ad _ σ1 x2 (0 : Int32) (5 : Int32) q5 h6) (cwS 3 S.2.2.2.2 (jgS k_680 k_681 k_7 k_682) rfl rfl rfl (by decide +kernel) ⟨Nat.le_of_ble_eq_true rfl, Nat.le_of_ble_eq_true rfl⟩) (j_preS hw mN_b (mN_to hN hw hA)) rfl rfl hl.1 rfl (lv_room (Nat.le_of_ble_eq_true rfl)) dM_entry_16 ⟨Nat.le_of_ble_eq_true rfl, Nat.le_of_ble_eq_true rfl⟩) ?_
    refine lv_if_eq (pc := 19) (tgt := 37) hx hb dM_entry_19 (by decide) (fun hc => ?_) (fun hc => ?_)
    · replace hf := jit hf hc
      refine lv_ldc2 (pc := 37) (v := (1099511627776 : Int64)) hx hb S.2.2.2.1 (S.2.2.2.2 _ k_739) dM_entry_37 ?_
      obtain rfl := jsm hf
      exact j_lret (pc := 40) S hw hr hlk dM_entry_40
    · replace hf := jif hf hc
      refine lv_iload_n (pc := 22) hx hb dM_entry_22 rfl (lv_at hl 2 rfl) ?_
      refine lv_iconst (pc := 23) (v := (1 : Int32)) hx hb dM_entry_23 (by decide) ?_
      refine lv_icmp_le (pc := 24) (tgt := 41) hx hb dM_entry_24 (by decide) (fun hc => ?_) (fun hc => ?_)
      · replace hf := jit hf hc
        exact wmM_entry_J41g hA S hN hr hlk out σ1 x1 x2 _ _ _ (lv_sub hl [0, 1, 2] rfl) hw hf
      · replace hf := jif hf hc
        refine lv_aload_n (pc := 27) hx hb dM_entry_27 rfl (lv_at hl 0 rfl) ?_
        refine j_get (pc := 28) (v := .ref (ad 4)) S hw inM 0 6 9 mg_0 rfl (by decide) k_605 rfl dM_entry_28 ?_
        refine lv_iload_n (pc := 31) hx hb dM_entry_31 rfl (lv_at hl 1 rfl) ?_
        have hg := jrd_e hf; clear hf; obtain ⟨h26, v25, e27, hf⟩ := hg
        refine j_iald (pc := 32) S hw 4 3 mg_4 mt_4 h26 e27 dM_entry_32 ?_
        refine lv_iconst (pc := 33) (v := (1 : Int32)) hx hb dM_entry_33 (by decide) ?_
        refine lv_icmp_eq (pc := 34) (tgt := 41) hx hb dM_entry_34 (by decide) (fun hc => ?_) (fun hc => ?_)
        · replace hf := jit hf hc
          exact wmM_entry_J41g hA S hN hr hlk out σ1 x1 x2 _ _ _ (lv_sub hl [0, 1, 2] rfl) hw hf
        · replace hf := jif hf hc
          refine lv_ldc2 (pc := 37) (v := (1099511627776 : Int64)) hx hb S.2.2.2.1 (S.2.2.2.2 _ k_739) dM_entry_37 ?_
          obtain rfl := jsm hf
          exact j_lret (pc := 40) S hw hr hlk dM_entry_40
set_option maxHeartbeats 4000000 in
set_option maxRecDepth 100000 in
theorem kM_entry (l : Launch) (D : va_G) (ca : Nat → ClassId) (ad : Nat → Nat) (sz : Nat) (σ : JS) (x1 : Int32) (x2 : Int32) (out : Int64 × JS) (hf : mM_entry σ x1 x2 = some out) : Met l yM_entry wsM_entry rmM_entry (jPre D (mT ca) (mC ca ad σ) (mN (va_A (mC ca ad σ) sz)) sz [.ref (ad 0), .int x1, .int x2]) (jQl D (mT ca) (mC ca ad) (va_A (mC ca ad σ) sz) out.1 out.2) 0 0 (va_A (mC ca ad σ) sz) := by
  refine Met.ofW (cc := cM_entry) (maxL := 3) (ret := some .long) (by decide) rfl ?_
  intro p e s m args below meth c s₁ B hml hv
  obtain ⟨rfl, hsz, hP, hK, hD0, hN⟩ := hv
  subst hsz
  have hl := lv_entry [.ref (ad 0), .int x1, .int x2] (n := 3) (Nat.le_of_ble_eq_true rfl)
  rw [lg_entry_eq]
  generalize (lg_sl [.ref (ad 0), .int x1, .int x2] ++ List.replicate (3 - (lg_sl [.ref (ad 0), .int x1, .int x2]).length) Slot.unset).toArray = ls at hl ⊢
  exact bM_entry (fun q h => Or.inr h) ⟨B.exec, B.bytes, hml, findClass_of_methodNamed B.named, fun w h => atoms_spec (ws := wsM_entry) B.pre w (List.mem_cons_of_mem _ h)⟩ hN B.returns B.notSynchronized out σ x1 x2 ls hl ⟨hP, hD0.self, va_S.rf, hK⟩ hf

def rmM_drop : Room := { frames := 1, cells := 0, slots := 0, locals := 24 }
def mM_drop_L42 (k : Int32 → Int32 → Option (Int32 × JS)) (σ : JS) (x1 : Int32) : Nat → Int32 → Int32 → Option (Int32 × JS)
  | 0, _, _ => none
  | n + 1, x2, x3 =>
    if (4 : Int32) ≤ x3 then
    (k x2 x3)
    else
    (jbn (mM_cycleAt σ x3 (σ 100 2)) fun q1 =>
    if x2 = 0 then
    (mM_drop_L42 k σ x1 n (0 : Int32) (x3 + 1))
    else
    (if q1 = 0 then
    (mM_drop_L42 k σ x1 n (1 : Int32) (x3 + 1))
    else
    (if q1 ≤ x1 then
    (mM_drop_L42 k σ x1 n (0 : Int32) (x3 + 1))
    else
    (mM_drop_L42 k σ x1 n (1 : Int32) (x3 + 1)))))
def mM_drop_L104 (k : JS → Option (Int32 × JS))  : Nat → JS → Option (Int32 × JS)
  | 0, _ => none
  | n + 1, σ =>
    if (σ 100 6) ≤ 0 then
    (k σ)
    else
    (jbn (mM_landFirst σ ) fun q7 =>
    mM_drop_L104 k  n q7)
def mM_drop_J95 (σ : JS) (x2 : Int32) (y0 : Int32) : Option (Int32 × JS) :=
  jst (jw2 σ 100 0 y0) fun σ5 =>
  if x2 = 0 then
  (some ((0 : Int32), σ5))
  else
  (mM_drop_L104 (fun σ9 =>
  jst (jw2 σ9 100 3 ((σ9 100 3) + (1 : Int32))) fun σ10 =>
  some ((σ10 100 3), σ10))  999 σ5)
def mM_drop_J39 (σ : JS) (x1 : Int32) (y0 : Int32) : Option (Int32 × JS) :=
  mM_drop_L42 (fun z3 z4 =>
  if z3 = 0 then
  (mM_drop_J95 σ z3 (1 : Int32))
  else
  (mM_drop_J95 σ z3 (0 : Int32))) σ x1 999 y0 (0 : Int32)
def mM_drop_J38 (σ : JS) (x1 : Int32) : Option (Int32 × JS) :=
  mM_drop_J39 σ x1 (0 : Int32)
def mM_drop (σ : JS)  : Option (Int32 × JS) :=
  if (σ 100 5) = 0 then
  (if (σ 100 2) < (((8 : Int32) * (σ 100 3)) + (8 : Int32)) then
  (mM_drop_J38 σ (((8 : Int32) * (σ 100 3)) + (8 : Int32)))
  else
  (if (σ 100 4) < (((8 : Int32) * (σ 100 3)) + (8 : Int32)) then
  (mM_drop_J38 σ (((8 : Int32) * (σ 100 3)) + (8 : Int32)))
  else
  (mM_drop_J39 σ (((8 : Int32) * (σ 100 3)) + (8 : Int32)) (1 : Int32))))
  else
  (mM_drop_J38 σ (((8 : Int32) * (σ 100 3)) + (8 : Int32)))
set_option maxHeartbeats 4000000 in
set_option maxRecDepth 100000 in
theorem wmM_drop_L42 {p : Program} {l : Launch} {e : Env} {s : State} {m : MethodId} {args : Array Value} {below : List Frame} {meth : Method} {c : Code} {D : va_G} {ca : Nat → ClassId} {ad : Nat → Nat} {A : Nat → Prop} (hA : ∀ q, s.heap.size ≤ q → A q) (S : CallFix p m c cM_drop 5 s args jall RM) (hN : mN A s) (hr : meth.sig.returnType = some .int) (hlk : meth.locks = false) (out : Int32 × JS) (k : Int32 → Int32 → Option (Int32 × JS)) (σ : JS) (x1 : Int32) (hk : ∀ (x2 : Int32) (x3 : Int32) (ls : Array Slot) , lv_has ls 5 [(0, .ref (ad 0)), (1, .int x1), (2, .int x2), (3, .int x3)] → jH D (mT ca) (mC ca ad σ) A s.heap s.heap [] s → k x2 x3 = some out → W p l e (headSpec wsM_drop rmM_drop).room s m args below meth c s.heap [] 0 0 (MQ below (jQi D (mT ca) (mC ca ad) A out.1 out.2) args s 0 0 A) (F0 m 85 ls [])) : ∀ (n : Nat) (x2 : Int32) (x3 : Int32) (ls : Array Slot) , lv_has ls 5 [(0, .ref (ad 0)), (1, .int x1), (2, .int x2), (3, .int x3)] → jH D (mT ca) (mC ca ad σ) A s.heap s.heap [] s → mM_drop_L42 k σ x1 n x2 x3 = some out → W p l e (headSpec wsM_drop rmM_drop).room s m args below meth c s.heap [] 0 0 (MQ below (jQi D (mT ca) (mC ca ad) A out.1 out.2) args s 0 0 A) (F0 m 42 ls []) := by
  have hx := S.1
  have hb := S.2.1
  intro n
  induction n with
  | zero => intro x2 x3 ls hl hw hf; cases hf
  | succ n ih =>
    intro x2 x3 ls hl hw hf
    rw [mM_drop_L42] at hf
    refine lv_iload_n (pc := 42) hx hb dM_drop_42 rfl (lv_at hl 3 rfl) ?_
    refine lv_iconst (pc := 43) (v := (4 : Int32)) hx hb dM_drop_43 (by decide) ?_
    refine lv_icmp_ge (pc := 44) (tgt := 85) hx hb dM_drop_44 (by decide) (fun hc => ?_) (fun hc => ?_)
    · replace hf := jit hf hc
      exact hk x2 x3 _ (lv_sub hl [0, 1, 2, 3] rfl) hw hf
    · replace hf := jif hf hc
      refine lv_aload_n (pc := 47) hx hb dM_drop_47 rfl (lv_at hl 0 rfl) ?_
      refine lv_iload_n (pc := 48) hx hb dM_drop_48 rfl (lv_at hl 3 rfl) ?_
      refine lv_aload_n (pc := 49) hx hb dM_drop_49 rfl (lv_at hl 0 rfl) ?_
      refine j_get (pc := 50) (v := .int (σ 100 2)) S hw inM 0 6 5 mg_0 rfl (by decide) k_601 rfl dM_drop_50 ?_
      have hg := jbn_e hf; clear hf; obtain ⟨q1, h2, hf⟩ := hg
      refine j_cpi (pc := 53) (v := q1) (va_runV (As := [.int x3, .int (σ 100 2)]) (rest := []) S (kM_cycleAt l D ca ad _ σ x3 (σ 100 2) q1 h2) (cwV 2 S.2.2.2.2 (jgV k_703 k_705 ks_18 k_7 k_706) rfl rfl rfl (by decide +kernel) ⟨Nat.le_of_ble_eq_true rfl, Nat.le_of_ble_eq_true rfl⟩) (j_preV (As := [.int x3, .int (σ 100 2)]) hw mN_b (mN_to hN hw hA) rfl mg_0) rfl rfl hl.1 rfl (lv_room (Nat.le_of_ble_eq_true rfl)) dM_drop_53 ⟨Nat.le_of_ble_eq_true rfl, Nat.le_of_ble_eq_true rfl⟩) ?_
      refine lv_istore (pc := 56) (lv' := [(4, .int q1), (0, .ref (ad 0)), (1, .int x1), (2, .int x2), (3, .int x3)]) hx hb dM_drop_56 hl (by decide) rfl (fun ls hl => ?_)
      refine lv_iload_n (pc := 58) hx hb dM_drop_58 rfl (lv_at hl 3 rfl) ?_
      refine lv_if_eq (pc := 59) (tgt := 77) hx hb dM_drop_59 (by decide) (fun hc => ?_) (fun hc => ?_)
      · replace hf := jit hf hc
        refine lv_iconst (pc := 77) (v := (0 : Int32)) hx hb dM_drop_77 (by decide) ?_
        refine lv_istore_n (pc := 78) (lv' := [(2, .int (0 : Int32)), (4, .int q1), (0, .ref (ad 0)), (1, .int x1), (3, .int x3)]) hx hb dM_drop_78 rfl hl (by decide) rfl (fun ls hl => ?_)
        refine lv_iinc (pc := 79) (v := (x3 + 1)) (k := 4) (lv' := [(3, .int (x3 + 1)), (2, .int (0 : Int32)), (4, .int q1), (0, .ref (ad 0)), (1, .int x1)]) hx hb dM_drop_79 hl rfl (j_inc _ (by decide)) (by decide) rfl (fun ls hl => ?_)
        refine lv_goto (pc := 82) (tgt := 42) hx hb dM_drop_82 (by decide) ?_
        exact ih (0 : Int32) (x3 + 1) _ (lv_sub hl [3, 4, 1, 0] rfl) hw hf
      · replace hf := jif hf hc
        refine lv_iload (pc := 62) hx hb dM_drop_62 (lv_at hl 0 rfl) ?_
        refine lv_if_eq (pc := 64) (tgt := 73) hx hb dM_drop_64 (by decide) (fun hc => ?_) (fun hc => ?_)
        · replace hf := jit hf hc
          refine lv_iconst (pc := 73) (v := (1 : Int32)) hx hb dM_drop_73 (by decide) ?_
          refine lv_goto (pc := 74) (tgt := 78) hx hb dM_drop_74 (by decide) ?_
          refine lv_istore_n (pc := 78) (lv' := [(2, .int (1 : Int32)), (4, .int q1), (0, .ref (ad 0)), (1, .int x1), (3, .int x3)]) hx hb dM_drop_78 rfl hl (by decide) rfl (fun ls hl => ?_)
          refine lv_iinc (pc := 79) (v := (x3 + 1)) (k := 4) (lv' := [(3, .int (x3 + 1)), (2, .int (1 : Int32)), (4, .int q1), (0, .ref (ad 0)), (1, .int x1)]) hx hb dM_drop_79 hl rfl (j_inc _ (by decide)) (by decide) rfl (fun ls hl => ?_)
          refine lv_goto (pc := 82) (tgt := 42) hx hb dM_drop_82 (by decide) ?_
          exact ih (1 : Int32) (x3 + 1) _ (lv_sub hl [3, 4, 1, 0] rfl) hw hf
        · replace hf := jif hf hc
          refine lv_iload (pc := 67) hx hb dM_drop_67 (lv_at hl 0 rfl) ?_
          refine lv_iload_n (pc := 69) hx hb dM_drop_69 rfl (lv_at hl 2 rfl) ?_
          refine lv_icmp_le (pc := 70) (tgt := 77) hx hb dM_drop_70 (by decide) (fun hc => ?_) (fun hc => ?_)
          · replace hf := jit hf hc
            refine lv_iconst (pc := 77) (v := (0 : Int32)) hx hb dM_drop_77 (by decide) ?_
            refine lv_istore_n (pc := 78) (lv' := [(2, .int (0 : Int32)), (4, .int q1), (0, .ref (ad 0)), (1, .int x1), (3, .int x3)]) hx hb dM_drop_78 rfl hl (by decide) rfl (fun ls hl => ?_)
            refine lv_iinc (pc := 79) (v := (x3 + 1)) (k := 4) (lv' := [(3, .int (x3 + 1)), (2, .int (0 : Int32)), (4, .int q1), (0, .ref (ad 0)), (1, .int x1)]) hx hb dM_drop_79 hl rfl (j_inc _ (by decide)) (by decide) rfl (fun ls hl => ?_)
            refine lv_goto (pc := 82) (tgt := 42) hx hb dM_drop_82 (by decide) ?_
            exact ih (0 : Int32) (x3 + 1) _ (lv_sub hl [3, 4, 1, 0] rfl) hw hf
          · replace hf := jif hf hc
            refine lv_iconst (pc := 73) (v := (1 : Int32)) hx hb dM_drop_73 (by decide) ?_
            refine lv_goto (pc := 74) (tgt := 78) hx hb dM_drop_74 (by decide) ?_
            refine lv_istore_n (pc := 78) (lv' := [(2, .int (1 : Int32)), (4, .int q1), (0, .ref (ad 0)), (1, .int x1), (3, .int x3)]) hx hb dM_drop_78 rfl hl (by decide) rfl (fun ls hl => ?_)
            refine lv_iinc (pc := 79) (v := (x3 + 1)) (k := 4) (lv' := [(3, .int (x3 + 1)), (2, .int (1 : Int32)), (4, .int q1), (0, .ref (ad 0)), (1, .int x1)]) hx hb dM_drop_79 hl rfl (j_inc _ (by decide)) (by decide) rfl (fun ls hl => ?_)
            refine lv_goto (pc := 82) (tgt := 42) hx hb dM_drop_82 (by decide) ?_
            exact ih (1 : Int32) (x3 + 1) _ (lv_sub hl [3, 4, 1, 0] rfl) hw hf
set_option maxHeartbeats 4000000 in
set_option maxRecDepth 100000 in
theorem wmM_drop_L104g {p : Program} {l : Launch} {e : Env} {s : State} {m : MethodId} {args : Array Value} {below : List Frame} {meth : Method} {c : Code} {D : va_G} {ca : Nat → ClassId} {ad : Nat → Nat} {A : Nat → Prop} (hA : ∀ q, s.heap.size ≤ q → A q) (S : CallFix p m c cM_drop 5 s args jall RM) (hN : mN A s) (hr : meth.sig.returnType = some .int) (hlk : meth.locks = false) (out : Int32 × JS) (k : JS → Option (Int32 × JS))  (hk : ∀ (σ : JS) (ls : Array Slot) (H : Heap) (locs : List Loc), lv_has ls 5 [(0, .ref (ad 0))] → jH D (mT ca) (mC ca ad σ) A s.heap H locs s → k σ = some out → W p l e (headSpec wsM_drop rmM_drop).room s m args below meth c H locs 0 0 (MQ below (jQi D (mT ca) (mC ca ad) A out.1 out.2) args s 0 0 A) (F0 m 118 ls [])) : ∀ (n : Nat) (σ : JS) (ls : Array Slot) (H : Heap) (locs : List Loc), lv_has ls 5 [(0, .ref (ad 0))] → jH D (mT ca) (mC ca ad σ) A s.heap H locs s → mM_drop_L104 k  n σ = some out → W p l e (headSpec wsM_drop rmM_drop).room s m args below meth c H locs 0 0 (MQ below (jQi D (mT ca) (mC ca ad) A out.1 out.2) args s 0 0 A) (F0 m 104 ls []) := by
  have hx := S.1
  have hb := S.2.1
  intro n
  induction n with
  | zero => intro σ ls H locs hl hw hf; cases hf
  | succ n ih =>
    intro σ ls H locs hl hw hf
    rw [mM_drop_L104] at hf
    refine lv_aload_n (pc := 104) hx hb dM_drop_104 rfl (lv_at hl 0 rfl) ?_
    refine j_get (pc := 105) (v := .int (σ 100 6)) S hw inM 0 6 16 mg_0 rfl (by decide) k_612 rfl dM_drop_105 ?_
    refine lv_if_le (pc := 108) (tgt := 118) hx hb dM_drop_108 (by decide) (fun hc => ?_) (fun hc => ?_)
    · replace hf := jit hf hc
      exact hk σ _ _ _ (lv_sub hl [0] rfl) hw hf
    · replace hf := jif hf hc
      refine lv_aload_n (pc := 111) hx hb dM_drop_111 rfl (lv_at hl 0 rfl) ?_
      have hg := jbn_e hf; clear hf; obtain ⟨q7, h8, hf⟩ := hg
      refine j_callv (pc := 112) (C := mC ca ad) (σ' := q7) hw hA (va_runV (As := []) (rest := []) S (kM_landFirst l D ca ad _ σ  q7 h8) (cwV 0 S.2.2.2.2 (jgV k_731 k_733 ks_22 k_7 k_734) rfl rfl rfl (by decide +kernel) ⟨Nat.le_of_ble_eq_true rfl, Nat.le_of_ble_eq_true rfl⟩) (j_preV (As := []) hw mN_b (mN_to hN hw hA) rfl mg_0) rfl rfl hl.1 rfl (lv_room (Nat.le_of_ble_eq_true rfl)) dM_drop_112 ⟨Nat.le_of_ble_eq_true rfl, Nat.le_of_ble_eq_true rfl⟩) (fun H locs hw => ?_)
      refine lv_goto (pc := 115) (tgt := 104) hx hb dM_drop_115 (by decide) ?_
      exact ih q7 _ _ _ (lv_sub hl [0] rfl) hw hf
set_option maxHeartbeats 4000000 in
set_option maxRecDepth 100000 in
theorem wmM_drop_J95 {p : Program} {l : Launch} {e : Env} {s : State} {m : MethodId} {args : Array Value} {below : List Frame} {meth : Method} {c : Code} {D : va_G} {ca : Nat → ClassId} {ad : Nat → Nat} {A : Nat → Prop} (hA : ∀ q, s.heap.size ≤ q → A q) (S : CallFix p m c cM_drop 5 s args jall RM) (hN : mN A s) (hr : meth.sig.returnType = some .int) (hlk : meth.locks = false) (out : Int32 × JS) (σ : JS) (x2 : Int32) (y0 : Int32) (ls : Array Slot) (hl : lv_has ls 5 [(0, .ref (ad 0)), (2, .int x2)]) (hw : jH D (mT ca) (mC ca ad σ) A s.heap s.heap [] s) (hf : mM_drop_J95 σ x2 y0 = some out) : W p l e (headSpec wsM_drop rmM_drop).room s m args below meth c s.heap [] 0 0 (MQ below (jQi D (mT ca) (mC ca ad) A out.1 out.2) args s 0 0 A) (F0 m 95 ls [.int y0, .ref (ad 0)]) := by
  have hx := S.1
  have hb := S.2.1
  unfold mM_drop_J95 at hf
  have hg := jst_e hf; clear hf; obtain ⟨σ5, e6, hf⟩ := hg
  refine j_put (pc := 95) (v := .int y0) (ws' := mC ca ad σ5) S hw inM tyM tyM_ok nmM 0 6 0 mg_0 rfl (by decide) k_596 rfl rfl rfl (Nat.le_of_ble_eq_true rfl) (by rw [e6]; exact mp_0) dM_drop_95 (fun H locs hw => ?_)
  refine lv_iload_n (pc := 98) hx hb dM_drop_98 rfl (lv_at hl 1 rfl) ?_
  refine lv_if_ne (pc := 99) (tgt := 104) hx hb dM_drop_99 (by decide) (fun hc => ?_) (fun hc => ?_)
  · replace hf := jif hf hc
    refine wmM_drop_L104g hA S hN hr hlk out _  (fun σ9 ls H locs hl hw hf => ?_) 999 σ5 _ _ _ (lv_sub hl [0] rfl) hw hf
    try dsimp only at hf
    refine lv_aload_n (pc := 118) hx hb dM_drop_118 rfl (lv_at hl 0 rfl) ?_
    refine lv_dup (pc := 119) hx hb dM_drop_119 rfl ?_
    refine j_get (pc := 120) (v := .int (σ9 100 3)) S hw inM 0 6 6 mg_0 rfl (by decide) k_602 rfl dM_drop_120 ?_
    refine lv_iconst (pc := 123) (v := (1 : Int32)) hx hb dM_drop_123 (by decide) ?_
    refine lv_iadd (pc := 124) hx hb dM_drop_124 ?_
    have hg := jst_e hf; clear hf; obtain ⟨σ10, e11, hf⟩ := hg
    refine j_put (pc := 125) (v := .int ((σ9 100 3) + (1 : Int32))) (ws' := mC ca ad σ10) S hw inM tyM tyM_ok nmM 0 6 6 mg_0 rfl (by decide) k_602 rfl rfl rfl (Nat.le_of_ble_eq_true rfl) (by rw [e11]; exact mp_3) dM_drop_125 (fun H locs hw => ?_)
    refine lv_aload_n (pc := 128) hx hb dM_drop_128 rfl (lv_at hl 0 rfl) ?_
    refine j_get (pc := 129) (v := .int (σ10 100 3)) S hw inM 0 6 6 mg_0 rfl (by decide) k_602 rfl dM_drop_129 ?_
    obtain rfl := jsm hf
    exact j_iret (pc := 132) S hw hr hlk dM_drop_132
  · replace hf := jit hf hc
    refine lv_iconst (pc := 102) (v := (0 : Int32)) hx hb dM_drop_102 (by decide) ?_
    obtain rfl := jsm hf
    exact j_iret (pc := 103) S hw hr hlk dM_drop_103
set_option maxHeartbeats 4000000 in
set_option maxRecDepth 100000 in
theorem wmM_drop_J39 {p : Program} {l : Launch} {e : Env} {s : State} {m : MethodId} {args : Array Value} {below : List Frame} {meth : Method} {c : Code} {D : va_G} {ca : Nat → ClassId} {ad : Nat → Nat} {A : Nat → Prop} (hA : ∀ q, s.heap.size ≤ q → A q) (S : CallFix p m c cM_drop 5 s args jall RM) (hN : mN A s) (hr : meth.sig.returnType = some .int) (hlk : meth.locks = false) (out : Int32 × JS) (σ : JS) (x1 : Int32) (y0 : Int32) (ls : Array Slot) (hl : lv_has ls 5 [(0, .ref (ad 0)), (1, .int x1)]) (hw : jH D (mT ca) (mC ca ad σ) A s.heap s.heap [] s) (hf : mM_drop_J39 σ x1 y0 = some out) : W p l e (headSpec wsM_drop rmM_drop).room s m args below meth c s.heap [] 0 0 (MQ below (jQi D (mT ca) (mC ca ad) A out.1 out.2) args s 0 0 A) (F0 m 39 ls [.int y0]) := by
  have hx := S.1
  have hb := S.2.1
  unfold mM_drop_J39 at hf
  refine lv_istore_n (pc := 39) (lv' := [(2, .int y0), (0, .ref (ad 0)), (1, .int x1)]) hx hb dM_drop_39 rfl hl (by decide) rfl (fun ls hl => ?_)
  refine lv_iconst (pc := 40) (v := (0 : Int32)) hx hb dM_drop_40 (by decide) ?_
  refine lv_istore_n (pc := 41) (lv' := [(3, .int (0 : Int32)), (2, .int y0), (0, .ref (ad 0)), (1, .int x1)]) hx hb dM_drop_41 rfl hl (by decide) rfl (fun ls hl => ?_)
  refine wmM_drop_L42 hA S hN hr hlk out _ σ x1 (fun z3 z4 ls hl hw hf => ?_) 999 y0 (0 : Int32) _ (lv_sub hl [2, 3, 1, 0] rfl) hw hf
  try dsimp only at hf
  refine lv_aload_n (pc := 85) hx hb dM_drop_85 rfl (lv_at hl 0 rfl) ?_
  refine lv_iload_n (pc := 86) hx hb dM_drop_86 rfl (lv_at hl 2 rfl) ?_
  refine lv_if_eq (pc := 87) (tgt := 94) hx hb dM_drop_87 (by decide) (fun hc => ?_) (fun hc => ?_)
  · replace hf := jit hf hc
    refine lv_iconst (pc := 94) (v := (1 : Int32)) hx hb dM_drop_94 (by decide) ?_
    exact wmM_drop_J95 hA S hN hr hlk out σ z3 (1 : Int32) _ (lv_sub hl [0, 2] rfl) hw hf
  · replace hf := jif hf hc
    refine lv_iconst (pc := 90) (v := (0 : Int32)) hx hb dM_drop_90 (by decide) ?_
    refine lv_goto (pc := 91) (tgt := 95) hx hb dM_drop_91 (by decide) ?_
    exact wmM_drop_J95 hA S hN hr hlk out σ z3 (0 : Int32) _ (lv_sub hl [0, 2] rfl) hw hf
set_option maxHeartbeats 4000000 in
set_option maxRecDepth 100000 in
theorem wmM_drop_J38 {p : Program} {l : Launch} {e : Env} {s : State} {m : MethodId} {args : Array Value} {below : List Frame} {meth : Method} {c : Code} {D : va_G} {ca : Nat → ClassId} {ad : Nat → Nat} {A : Nat → Prop} (hA : ∀ q, s.heap.size ≤ q → A q) (S : CallFix p m c cM_drop 5 s args jall RM) (hN : mN A s) (hr : meth.sig.returnType = some .int) (hlk : meth.locks = false) (out : Int32 × JS) (σ : JS) (x1 : Int32) (ls : Array Slot) (hl : lv_has ls 5 [(0, .ref (ad 0)), (1, .int x1)]) (hw : jH D (mT ca) (mC ca ad σ) A s.heap s.heap [] s) (hf : mM_drop_J38 σ x1 = some out) : W p l e (headSpec wsM_drop rmM_drop).room s m args below meth c s.heap [] 0 0 (MQ below (jQi D (mT ca) (mC ca ad) A out.1 out.2) args s 0 0 A) (F0 m 38 ls []) := by
  have hx := S.1
  have hb := S.2.1
  unfold mM_drop_J38 at hf
  refine lv_iconst (pc := 38) (v := (0 : Int32)) hx hb dM_drop_38 (by decide) ?_
  exact wmM_drop_J39 hA S hN hr hlk out σ x1 (0 : Int32) _ (lv_sub hl [0, 1] rfl) hw hf
set_option maxHeartbeats 4000000 in
set_option maxRecDepth 100000 in
theorem bM_drop {p : Program} {l : Launch} {e : Env} {s : State} {m : MethodId} {args : Array Value} {below : List Frame} {meth : Method} {c : Code} {D : va_G} {ca : Nat → ClassId} {ad : Nat → Nat} {A : Nat → Prop} (hA : ∀ q, s.heap.size ≤ q → A q) (S : CallFix p m c cM_drop 5 s args jall RM) (hN : mN A s) (hr : meth.sig.returnType = some .int) (hlk : meth.locks = false) (out : Int32 × JS) (σ : JS)  (ls : Array Slot) (hl : lv_has ls 5 [(0, .ref (ad 0))]) (hw : jH D (mT ca) (mC ca ad σ) A s.heap s.heap [] s) (hf : mM_drop σ  = some out) : W p l e (headSpec wsM_drop rmM_drop).room s m args below meth c s.heap [] 0 0 (MQ below (jQi D (mT ca) (mC ca ad) A out.1 out.2) args s 0 0 A) (F0 m 0 ls []) := by
  have hx := S.1
  have hb := S.2.1
  unfold mM_drop at hf
  refine lv_bipush (pc := 0) (v := (8 : Int32)) hx hb dM_drop_0 (by decide) ?_
  refine lv_aload_n (pc := 2) hx hb dM_drop_2 rfl (lv_at hl 0 rfl) ?_
  refine j_get (pc := 3) (v := .int (σ 100 3)) S hw inM 0 6 6 mg_0 rfl (by decide) k_602 rfl dM_drop_3 ?_
  refine lv_imul (pc := 6) hx hb dM_drop_6 ?_
  refine lv_bipush (pc := 7) (v := (8 : Int32)) hx hb dM_drop_7 (by decide) ?_
  refine lv_iadd (pc := 9) hx hb dM_drop_9 ?_
  refine lv_istore_n (pc := 10) (lv' := [(1, .int (((8 : Int32) * (σ 100 3)) + (8 : Int32))), (0, .ref (ad 0))]) hx hb dM_drop_10 rfl hl (by decide) rfl (fun ls hl => ?_)
  refine lv_aload_n (pc := 11) hx hb dM_drop_11 rfl (lv_at hl 1 rfl) ?_
  refine j_get (pc := 12) (v := .int (σ 100 5)) S hw inM 0 6 8 mg_0 rfl (by decide) k_604 rfl dM_drop_12 ?_
  refine lv_if_ne (pc := 15) (tgt := 38) hx hb dM_drop_15 (by decide) (fun hc => ?_) (fun hc => ?_)
  · replace hf := jif hf hc
    exact wmM_drop_J38 hA S hN hr hlk out σ (((8 : Int32) * (σ 100 3)) + (8 : Int32)) _ (lv_sub hl [1, 0] rfl) hw hf
  · replace hf := jit hf hc
    refine lv_aload_n (pc := 18) hx hb dM_drop_18 rfl (lv_at hl 1 rfl) ?_
    refine j_get (pc := 19) (v := .int (σ 100 2)) S hw inM 0 6 5 mg_0 rfl (by decide) k_601 rfl dM_drop_19 ?_
    refine lv_iload_n (pc := 22) hx hb dM_drop_22 rfl (lv_at hl 0 rfl) ?_
    refine lv_icmp_lt (pc := 23) (tgt := 38) hx hb dM_drop_23 (by decide) (fun hc => ?_) (fun hc => ?_)
    · replace hf := jit hf hc
      exact wmM_drop_J38 hA S hN hr hlk out σ (((8 : Int32) * (σ 100 3)) + (8 : Int32)) _ (lv_sub hl [1, 0] rfl) hw hf
    · replace hf := jif hf hc
      refine lv_aload_n (pc := 26) hx hb dM_drop_26 rfl (lv_at hl 1 rfl) ?_
      refine j_get (pc := 27) (v := .int (σ 100 4)) S hw inM 0 6 7 mg_0 rfl (by decide) k_603 rfl dM_drop_27 ?_
      refine lv_iload_n (pc := 30) hx hb dM_drop_30 rfl (lv_at hl 0 rfl) ?_
      refine lv_icmp_lt (pc := 31) (tgt := 38) hx hb dM_drop_31 (by decide) (fun hc => ?_) (fun hc => ?_)
      · replace hf := jit hf hc
        exact wmM_drop_J38 hA S hN hr hlk out σ (((8 : Int32) * (σ 100 3)) + (8 : Int32)) _ (lv_sub hl [1, 0] rfl) hw hf
      · replace hf := jif hf hc
        refine lv_iconst (pc := 34) (v := (1 : Int32)) hx hb dM_drop_34 (by decide) ?_
        refine lv_goto (pc := 35) (tgt := 39) hx hb dM_drop_35 (by decide) ?_
        exact wmM_drop_J39 hA S hN hr hlk out σ (((8 : Int32) * (σ 100 3)) + (8 : Int32)) (1 : Int32) _ (lv_sub hl [1, 0] rfl) hw hf
set_option maxHeartbeats 4000000 in
set_option maxRecDepth 100000 in
theorem kM_drop (l : Launch) (D : va_G) (ca : Nat → ClassId) (ad : Nat → Nat) (sz : Nat) (σ : JS)  (out : Int32 × JS) (hf : mM_drop σ  = some out) : Met l yM_drop wsM_drop rmM_drop (jPre D (mT ca) (mC ca ad σ) (mN (va_A (mC ca ad σ) sz)) sz [.ref (ad 0)]) (jQi D (mT ca) (mC ca ad) (va_A (mC ca ad σ) sz) out.1 out.2) 0 0 (va_A (mC ca ad σ) sz) := by
  refine Met.ofW (cc := cM_drop) (maxL := 5) (ret := some .int) (by decide) rfl ?_
  intro p e s m args below meth c s₁ B hml hv
  obtain ⟨rfl, hsz, hP, hK, hD0, hN⟩ := hv
  subst hsz
  have hl := lv_entry [.ref (ad 0)] (n := 5) (Nat.le_of_ble_eq_true rfl)
  rw [lg_entry_eq]
  generalize (lg_sl [.ref (ad 0)] ++ List.replicate (5 - (lg_sl [.ref (ad 0)]).length) Slot.unset).toArray = ls at hl ⊢
  exact bM_drop (fun q h => Or.inr h) ⟨B.exec, B.bytes, hml, findClass_of_methodNamed B.named, fun w h => atoms_spec (ws := wsM_drop) B.pre w (List.mem_cons_of_mem _ h)⟩ hN B.returns B.notSynchronized out σ  ls hl ⟨hP, hD0.self, va_S.rf, hK⟩ hf

