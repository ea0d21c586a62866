def rmM_become : Room := { frames := 3, cells := 0, slots := 0, locals := 74 }
def mM_become_L12 (k : Int32 → Int32 → Option (Int32 × JS)) (σ : JS) (x1 : Int32) (x2 : Int32) (x3 : Int32) (x4 : Int32) : Nat → Int32 → Int32 → Option (Int32 × JS)
  | 0, _, _ => none
  | n + 1, x5, x6 =>
    jrd σ 1 3 x1 fun v1 =>
    if v1 ≤ x6 then
    (k x5 x6)
    else
    (jbn (mM_valueAt σ x1 x6 x2) fun q4 =>
    jbn (mM_valueAt σ x1 x6 x4) fun q6 =>
    if q4 = q6 then
    (mM_become_L12 k σ x1 x2 x3 x4 n x5 (x6 + 1))
    else
    (mM_become_L12 k σ x1 x2 x3 x4 n (x5 + (1 : Int32)) (x6 + 1)))
def mM_become_L90 (k : JS → Int32 → Option (Int32 × JS)) (x1 : Int32) (x2 : Int32) (x3 : Int32) (x4 : Int32) (x5 : Int32) : Nat → JS → Int32 → Option (Int32 × JS)
  | 0, _, _ => none
  | n + 1, σ, x6 =>
    jrd σ 1 3 x1 fun v10 =>
    if v10 ≤ x6 then
    (k σ x6)
    else
    (jbn (mM_valueAt σ x1 x6 x2) fun q13 =>
    jbn (mM_valueAt σ x1 x6 x4) fun q15 =>
    if q13 = q15 then
    (mM_become_L90 k x1 x2 x3 x4 x5 n σ (x6 + 1))
    else
    (jbn (mM_put σ (3 : Int32) x1 x6 q13) fun q17 =>
    mM_become_L90 k x1 x2 x3 x4 x5 n q17 (x6 + 1)))
def mM_become_J87 (σ : JS) (x1 : Int32) (x2 : Int32) (x3 : Int32) (x4 : Int32) (x5 : Int32) : Option (Int32 × JS) :=
  mM_become_L90 (fun σ19 z20 =>
  if x5 ≤ 0 then
  (jwr σ19 2 3 x1 x2 fun σ21 =>
  jwr σ21 3 3 x1 x3 fun σ24 =>
  some (x5, σ24))
  else
  (jbn (mM_note σ19 (2 : Int32) (3 : Int32) (0 : Int32) (0 : Int32) (0 : Int32)) fun q27 =>
  jwr q27 2 3 x1 x2 fun σ29 =>
  jwr σ29 3 3 x1 x3 fun σ32 =>
  some (x5, σ32))) x1 x2 x3 x4 x5 999 σ (0 : Int32)
def mM_become (σ : JS) (x1 : Int32) (x2 : Int32) (x3 : Int32) : Option (Int32 × JS) :=
  mM_become_L12 (fun z8 z9 =>
  if z8 ≤ 0 then
  (mM_become_J87 σ x1 x2 x3 (σ 100 2) z8)
  else
  (jbn (mM_room σ ) fun q35 =>
  jbn (mM_reserve σ ) fun q37 =>
  if q37 ≤ ((q35 - z8) - (1 : Int32)) then
  (mM_become_J87 σ x1 x2 x3 (σ 100 2) z8)
  else
  (jbn (mM_refuse σ (2 : Int32)) fun q39 =>
  some (q39.1, q39.2)))) σ x1 x2 x3 (σ 100 2) 999 (0 : Int32) (0 : Int32)
set_option maxHeartbeats 4000000 in
set_option maxRecDepth 100000 in
theorem wmM_become_L12 {p : Program} {l : Launch} {e : Env} {s : State} {m : MethodId} {args : Array Value} {below : List Frame} {meth : Method} {c : Code} {D : va_G} {ca : Nat → ClassId} {ad : Nat → Nat} {A : Nat → Prop} (hA : ∀ q, s.heap.size ≤ q → A q) (S : CallFix p m c cM_become 8 s args jall RM) (hN : mN A s) (hr : meth.sig.returnType = some .int) (hlk : meth.locks = false) (out : Int32 × JS) (k : Int32 → Int32 → Option (Int32 × JS)) (σ : JS) (x1 : Int32) (x2 : Int32) (x3 : Int32) (x4 : Int32) (hk : ∀ (x5 : Int32) (x6 : Int32) (ls : Array Slot) , lv_has ls 8 [(0, .ref (ad 0)), (1, .int x1), (2, .int x2), (3, .int x3), (4, .int x4), (5, .int x5), (6, .int x6)] → jH D (mT ca) (mC ca ad σ) A s.heap s.heap [] s → k x5 x6 = some out → W p l e (headSpec wsM_become rmM_become).room s m args below meth c s.heap [] 0 0 (MQ below (jQi D (mT ca) (mC ca ad) A out.1 out.2) args s 0 0 A) (F0 m 60 ls [])) : ∀ (n : Nat) (x5 : Int32) (x6 : Int32) (ls : Array Slot) , lv_has ls 8 [(0, .ref (ad 0)), (1, .int x1), (2, .int x2), (3, .int x3), (4, .int x4), (5, .int x5), (6, .int x6)] → jH D (mT ca) (mC ca ad σ) A s.heap s.heap [] s → mM_become_L12 k σ x1 x2 x3 x4 n x5 x6 = some out → W p l e (headSpec wsM_become rmM_become).room s m args below meth c s.heap [] 0 0 (MQ below (jQi D (mT ca) (mC ca ad) A out.1 out.2) args s 0 0 A) (F0 m 12 ls []) := by
  have hx := S.1
  have hb := S.2.1
  intro n
  induction n with
  | zero => intro x5 x6 ls hl hw hf; cases hf
  | succ n ih =>
    intro x5 x6 ls hl hw hf
    rw [mM_become_L12] at hf
    refine lv_iload (pc := 12) hx hb dM_become_12 (lv_at hl 6 rfl) ?_
    refine lv_aload_n (pc := 14) hx hb dM_become_14 rfl (lv_at hl 0 rfl) ?_
    refine j_get (pc := 15) (v := .ref (ad 1)) S hw inM 0 6 2 mg_0 rfl (by decide) k_598 rfl dM_become_15 ?_
    refine lv_iload_n (pc := 18) hx hb dM_become_18 rfl (lv_at hl 1 rfl) ?_
    have hg := jrd_e hf; clear hf; obtain ⟨h2, v1, e3, hf⟩ := hg
    refine j_iald (pc := 19) S hw 1 0 mg_1 mt_1 h2 e3 dM_become_19 ?_
    refine lv_icmp_ge (pc := 20) (tgt := 60) hx hb dM_become_20 (by decide) (fun hc => ?_) (fun hc => ?_)
    · replace hf := jit hf hc
      exact hk x5 x6 _ (lv_sub hl [0, 1, 2, 3, 4, 5, 6] rfl) hw hf
    · replace hf := jif hf hc
      refine lv_aload_n (pc := 23) hx hb dM_become_23 rfl (lv_at hl 0 rfl) ?_
      refine lv_iload_n (pc := 24) hx hb dM_become_24 rfl (lv_at hl 1 rfl) ?_
      refine lv_iload (pc := 25) hx hb dM_become_25 (lv_at hl 6 rfl) ?_
      refine lv_iload_n (pc := 27) hx hb dM_become_27 rfl (lv_at hl 2 rfl) ?_
      have hg := jbn_e hf; clear hf; obtain ⟨q4, h5, hf⟩ := hg
      refine j_cpi (pc := 28) (v := q4) (va_runV (As := [.int x1, .int x6, .int x2]) (rest := []) S (kM_valueAt l D ca ad _ σ x1 x6 x2 q4 h5) (cwV 3 S.2.2.2.2 (jgV k_727 k_729 ks_20 k_7 k_730) rfl rfl rfl (by decide +kernel) ⟨Nat.le_of_ble_eq_true rfl, Nat.le_of_ble_eq_true rfl⟩) (j_preV (As := [.int x1, .int x6, .int x2]) hw mN_b (mN_to hN hw hA) rfl mg_0) rfl rfl hl.1 rfl (lv_room (Nat.le_of_ble_eq_true rfl)) dM_become_28 ⟨Nat.le_of_ble_eq_true rfl, Nat.le_of_ble_eq_true rfl⟩) ?_
      refine lv_aload_n (pc := 31) hx hb dM_become_31 rfl (lv_at hl 0 rfl) ?_
      refine lv_iload_n (pc := 32) hx hb dM_become_32 rfl (lv_at hl 1 rfl) ?_
      refine lv_iload (pc := 33) hx hb dM_become_33 (lv_at hl 6 rfl) ?_
      refine lv_iload (pc := 35) hx hb dM_become_35 (lv_at hl 4 rfl) ?_
      have hg := jbn_e hf; clear hf; obtain ⟨q6, h7, hf⟩ := hg
      refine j_cpi (pc := 37) (v := q6) (va_runV (As := [.int x1, .int x6, .int x4]) (rest := [.int q4]) S (kM_valueAt l D ca ad _ σ x1 x6 x4 q6 h7) (cwV 3 S.2.2.2.2 (jgV k_727 k_729 ks_20 k_7 k_730) rfl rfl rfl (by decide +kernel) ⟨Nat.le_of_ble_eq_true rfl, Nat.le_of_ble_eq_true rfl⟩) (j_preV (As := [.int x1, .int x6, .int x4]) hw mN_b (mN_to hN hw hA) rfl mg_0) rfl rfl hl.1 rfl (lv_room (Nat.le_of_ble_eq_true rfl)) dM_become_37 ⟨Nat.le_of_ble_eq_true rfl, Nat.le_of_ble_eq_true rfl⟩) ?_
      refine lv_icmp_eq (pc := 40) (tgt := 50) hx hb dM_become_40 (by decide) (fun hc => ?_) (fun hc => ?_)
      · replace hf := jit hf hc
        refine lv_iload (pc := 50) hx hb dM_become_50 (lv_at hl 5 rfl) ?_
        refine lv_istore (pc := 52) (lv' := [(5, .int x5), (0, .ref (ad 0)), (1, .int x1), (2, .int x2), (3, .int x3), (4, .int x4), (6, .int x6)]) hx hb dM_become_52 hl (by decide) rfl (fun ls hl => ?_)
        refine lv_iinc (pc := 54) (v := (x6 + 1)) (k := 6) (lv' := [(6, .int (x6 + 1)), (5, .int x5), (0, .ref (ad 0)), (1, .int x1), (2, .int x2), (3, .int x3), (4, .int x4)]) hx hb dM_become_54 hl rfl (j_inc _ (by decide)) (by decide) rfl (fun ls hl => ?_)
        refine lv_goto (pc := 57) (tgt := 12) hx hb dM_become_57 (by decide) ?_
        exact ih x5 (x6 + 1) _ (lv_sub hl [2, 3, 4, 5, 6, 1, 0] rfl) hw hf
      · replace hf := jif hf hc
        refine lv_iload (pc := 43) hx hb dM_become_43 (lv_at hl 5 rfl) ?_
        refine lv_iconst (pc := 45) (v := (1 : Int32)) hx hb dM_become_45 (by decide) ?_
        refine lv_iadd (pc := 46) hx hb dM_become_46 ?_
        refine lv_goto (pc := 47) (tgt := 52) hx hb dM_become_47 (by decide) ?_
        refine lv_istore (pc := 52) (lv' := [(5, .int (x5 + (1 : Int32))), (0, .ref (ad 0)), (1, .int x1), (2, .int x2), (3, .int x3), (4, .int x4), (6, .int x6)]) hx hb dM_become_52 hl (by decide) rfl (fun ls hl => ?_)
        refine lv_iinc (pc := 54) (v := (x6 + 1)) (k := 6) (lv' := [(6, .int (x6 + 1)), (5, .int (x5 + (1 : Int32))), (0, .ref (ad 0)), (1, .int x1), (2, .int x2), (3, .int x3), (4, .int x4)]) hx hb dM_become_54 hl rfl (j_inc _ (by decide)) (by decide) rfl (fun ls hl => ?_)
        refine lv_goto (pc := 57) (tgt := 12) hx hb dM_become_57 (by decide) ?_
        exact ih (x5 + (1 : Int32)) (x6 + 1) _ (lv_sub hl [2, 3, 4, 5, 6, 1, 0] rfl) hw hf
set_option maxHeartbeats 4000000 in
set_option maxRecDepth 100000 in
theorem wmM_become_L90g {p : Program} {l : Launch} {e : Env} {s : State} {m : MethodId} {args : Array Value} {below : List Frame} {meth : Method} {c : Code} {D : va_G} {ca : Nat → ClassId} {ad : Nat → Nat} {A : Nat → Prop} (hA : ∀ q, s.heap.size ≤ q → A q) (S : CallFix p m c cM_become 8 s args jall RM) (hN : mN A s) (hr : meth.sig.returnType = some .int) (hlk : meth.locks = false) (out : Int32 × JS) (k : JS → Int32 → Option (Int32 × JS)) (x1 : Int32) (x2 : Int32) (x3 : Int32) (x4 : Int32) (x5 : Int32) (hk : ∀ (σ : JS) (x6 : Int32) (ls : Array Slot) (H : Heap) (locs : List Loc), lv_has ls 8 [(0, .ref (ad 0)), (1, .int x1), (2, .int x2), (3, .int x3), (4, .int x4), (5, .int x5), (6, .int x6)] → jH D (mT ca) (mC ca ad σ) A s.heap H locs s → k σ x6 = some out → W p l e (headSpec wsM_become rmM_become).room s m args below meth c H locs 0 0 (MQ below (jQi D (mT ca) (mC ca ad) A out.1 out.2) args s 0 0 A) (F0 m 141 ls [])) : ∀ (n : Nat) (σ : JS) (x6 : Int32) (ls : Array Slot) (H : Heap) (locs : List Loc), lv_has ls 8 [(0, .ref (ad 0)), (1, .int x1), (2, .int x2), (3, .int x3), (4, .int x4), (5, .int x5), (6, .int x6)] → jH D (mT ca) (mC ca ad σ) A s.heap H locs s → mM_become_L90 k x1 x2 x3 x4 x5 n σ x6 = some out → W p l e (headSpec wsM_become rmM_become).room s m args below meth c H locs 0 0 (MQ below (jQi D (mT ca) (mC ca ad) A out.1 out.2) args s 0 0 A) (F0 m 90 ls []) := by
  have hx := S.1
  have hb := S.2.1
  intro n
  induction n with
  | zero => intro σ x6 ls H locs hl hw hf; cases hf
  | succ n ih =>
    intro σ x6 ls H locs hl hw hf
    rw [mM_become_L90] at hf
    refine lv_iload (pc := 90) hx hb dM_become_90 (lv_at hl 6 rfl) ?_
    refine lv_aload_n (pc := 92) hx hb dM_become_92 rfl (lv_at hl 0 rfl) ?_
    refine j_get (pc := 93) (v := .ref (ad 1)) S hw inM 0 6 2 mg_0 rfl (by decide) k_598 rfl dM_become_93 ?_
    refine lv_iload_n (pc := 96) hx hb dM_become_96 rfl (lv_at hl 1 rfl) ?_
    have hg := jrd_e hf; clear hf; obtain ⟨h11, v10, e12, hf⟩ := hg
    refine j_iald (pc := 97) S hw 1 0 mg_1 mt_1 h11 e12 dM_become_97 ?_
    refine lv_icmp_ge (pc := 98) (tgt := 141) hx hb dM_become_98 (by decide) (fun hc => ?_) (fun hc => ?_)
    · replace hf := jit hf hc
      exact hk σ x6 _ _ _ (lv_sub hl [0, 1, 2, 3, 4, 5, 6] rfl) hw hf
    · replace hf := jif hf hc
      refine lv_aload_n (pc := 101) hx hb dM_become_101 rfl (lv_at hl 0 rfl) ?_
      refine lv_iload_n (pc := 102) hx hb dM_become_102 rfl (lv_at hl 1 rfl) ?_
      refine lv_iload (pc := 103) hx hb dM_become_103 (lv_at hl 6 rfl) ?_
      refine lv_iload_n (pc := 105) hx hb dM_become_105 rfl (lv_at hl 2 rfl) ?_
      have hg := jbn_e hf; clear hf; obtain ⟨q13, h14, hf⟩ := hg
      refine j_cpi (pc := 106) (v := q13) (va_runV (As := [.int x1, .int x6, .int x2]) (rest := []) S (kM_valueAt l D ca ad _ σ x1 x6 x2 q13 h14) (cwV 3 S.2.2.2.2 (jgV k_727 k_729 ks_20 k_7 k_730) rfl rfl rfl (by decide +kernel) ⟨Nat.le_of_ble_eq_true rfl, Nat.le_of_ble_eq_true rfl⟩) (j_preV (As := [.int x1, .int x6, .int x2]) hw mN_b (mN_to hN hw hA) rfl mg_0) rfl rfl hl.1 rfl (lv_room (Nat.le_of_ble_eq_true rfl)) dM_become_106 ⟨Nat.le_of_ble_eq_true rfl, Nat.le_of_ble_eq_true rfl⟩) ?_
      refine lv_istore (pc := 109) (lv' := [(7, .int q13), (0, .ref (ad 0)), (1, .int x1), (2, .int x2), (3, .int x3), (4, .int x4), (5, .int x5), (6, .int x6)]) hx hb dM_become_109 hl (by decide) rfl (fun ls hl => ?_)
      refine lv_iload (pc := 111) hx hb dM_become_111 (lv_at hl 0 rfl) ?_
      refine lv_aload_n (pc := 113) hx hb dM_become_113 rfl (lv_at hl 1 rfl) ?_
      refine lv_iload_n (pc := 114) hx hb dM_become_114 rfl (lv_at hl 2 rfl) ?_
      refine lv_iload (pc := 115) hx hb dM_become_115 (lv_at hl 7 rfl) ?_
      refine lv_iload (pc := 117) hx hb dM_become_117 (lv_at hl 5 rfl) ?_
      have hg := jbn_e hf; clear hf; obtain ⟨q15, h16, hf⟩ := hg
      refine j_cpi (pc := 119) (v := q15) (va_runV (As := [.int x1, .int x6, .int x4]) (rest := [.int q13]) S (kM_valueAt l D ca ad _ σ x1 x6 x4 q15 h16) (cwV 3 S.2.2.2.2 (jgV k_727 k_729 ks_20 k_7 k_730) rfl rfl rfl (by decide +kernel) ⟨Nat.le_of_ble_eq_true rfl, Nat.le_of_ble_eq_true rfl⟩) (j_preV (As := [.int x1, .int x6, .int x4]) hw mN_b (mN_to hN hw hA) rfl mg_0) rfl rfl hl.1 rfl (lv_room (Nat.le_of_ble_eq_true rfl)) dM_become_119 ⟨Nat.le_of_ble_eq_true rfl, Nat.le_of_ble_eq_true rfl⟩) ?_
      refine lv_icmp_eq (pc := 122) (tgt := 135) hx hb dM_become_122 (by decide) (fun hc => ?_) (fun hc => ?_)
      · replace hf := jit hf hc
        refine lv_iinc (pc := 135) (v := (x6 + 1)) (k := 7) (lv' := [(6, .int (x6 + 1)), (7, .int q13), (0, .ref (ad 0)), (1, .int x1), (2, .int x2), (3, .int x3), (4, .int x4), (5, .int x5)]) hx hb dM_become_135 hl rfl (j_inc _ (by decide)) (by decide) rfl (fun ls hl => ?_)
        refine lv_goto (pc := 138) (tgt := 90) hx hb dM_become_138 (by decide) ?_
        exact ih σ (x6 + 1) _ _ _ (lv_sub hl [2, 3, 4, 5, 6, 7, 0] rfl) hw hf
      · replace hf := jif hf hc
        refine lv_aload_n (pc := 125) hx hb dM_become_125 rfl (lv_at hl 1 rfl) ?_
        refine lv_iconst (pc := 126) (v := (3 : Int32)) hx hb dM_become_126 (by decide) ?_
        refine lv_iload_n (pc := 127) hx hb dM_become_127 rfl (lv_at hl 2 rfl) ?_
        refine lv_iload (pc := 128) hx hb dM_become_128 (lv_at hl 7 rfl) ?_
        refine lv_iload (pc := 130) hx hb dM_become_130 (lv_at hl 0 rfl) ?_
        have hg := jbn_e hf; clear hf; obtain ⟨q17, h18, hf⟩ := hg
        refine j_callv (pc := 132) (C := mC ca ad) (σ' := q17) hw hA (va_runV (As := [.int (3 : Int32), .int x1, .int x6, .int q13]) (rest := []) S (kM_put l D ca ad _ σ (3 : Int32) x1 x6 q13 q17 h18) (cwV 4 S.2.2.2.2 (jgV k_719 k_721 ks_23 k_7 k_722) rfl rfl rfl (by decide +kernel) ⟨Nat.le_of_ble_eq_true rfl, Nat.le_of_ble_eq_true rfl⟩) (j_preV (As := [.int (3 : Int32), .int x1, .int x6, .int q13]) hw mN_b (mN_to hN hw hA) rfl mg_0) rfl rfl hl.1 rfl (lv_room (Nat.le_of_ble_eq_true rfl)) dM_become_132 ⟨Nat.le_of_ble_eq_true rfl, Nat.le_of_ble_eq_true rfl⟩) (fun H locs hw => ?_)
        refine lv_iinc (pc := 135) (v := (x6 + 1)) (k := 7) (lv' := [(6, .int (x6 + 1)), (7, .int q13), (0, .ref (ad 0)), (1, .int x1), (2, .int x2), (3, .int x3), (4, .int x4), (5, .int x5)]) hx hb dM_become_135 hl rfl (j_inc _ (by decide)) (by decide) rfl (fun ls hl => ?_)
        refine lv_goto (pc := 138) (tgt := 90) hx hb dM_become_138 (by decide) ?_
        exact ih q17 (x6 + 1) _ _ _ (lv_sub hl [2, 3, 4, 5, 6, 7, 0] rfl) hw hf
set_option maxHeartbeats 4000000 in
set_option maxRecDepth 100000 in
theorem wmM_become_J87 {p : Program} {l : Launch} {e : Env} {s : State} {m : MethodId} {args : Array Value} {below : List Frame} {meth : Method} {c : Code} {D : va_G} {ca : Nat → ClassId} {ad : Nat → Nat} {A : Nat → Prop} (hA : ∀ q, s.heap.size ≤ q → A q) (S : CallFix p m c cM_become 8 s args jall RM) (hN : mN A s) (hr : meth.sig.returnType = some .int) (hlk : meth.locks = false) (out : Int32 × JS) (σ : JS) (x1 : Int32) (x2 : Int32) (x3 : Int32) (x4 : Int32) (x5 : Int32) (ls : Array Slot) (hl : lv_has ls 8 [(0, .ref (ad 0)), (1, .int x1), (2, .int x2), (3, .int x3), (4, .int x4), (5, .int x5)]) (hw : jH D (mT ca) (mC ca ad σ) A s.heap s.heap [] s) (hf : mM_become_J87 σ x1 x2 x3 x4 x5 = some out) : W p l e (headSpec wsM_become rmM_become).room s m args below meth c s.heap [] 0 0 (MQ below (jQi D (mT ca) (mC ca ad) A out.1 out.2) args s 0 0 A) (F0 m 87 ls []) := by
  have hx := S.1
  have hb := S.2.1
  unfold mM_become_J87 at hf
  refine lv_iconst (pc := 87) (v := (0 : Int32)) hx hb dM_become_87 (by decide) ?_
  refine lv_istore (pc := 88) (lv' := [(6, .int (0 : Int32)), (0, .ref (ad 0)), (1, .int x1), (2, .int x2), (3, .int x3), (4, .int x4), (5, .int x5)]) hx hb dM_become_88 hl (by decide) rfl (fun ls hl => ?_)
  refine wmM_become_L90g hA S hN hr hlk out _ x1 x2 x3 x4 x5 (fun σ19 z20 ls H locs hl hw hf => ?_) 999 σ (0 : Int32) _ _ _ (lv_sub hl [1, 2, 3, 4, 5, 6, 0] rfl) hw hf
  try dsimp only at hf
  refine lv_iload (pc := 141) hx hb dM_become_141 (lv_at hl 5 rfl) ?_
  refine lv_if_le (pc := 143) (tgt := 155) hx hb dM_become_143 (by decide) (fun hc => ?_) (fun hc => ?_)
  · replace hf := jit hf hc
    refine lv_aload_n (pc := 155) hx hb dM_become_155 rfl (lv_at hl 0 rfl) ?_
    refine j_get (pc := 156) (v := .ref (ad 2)) S hw inM 0 6 3 mg_0 rfl (by decide) k_599 rfl dM_become_156 ?_
    refine lv_iload_n (pc := 159) hx hb dM_become_159 rfl (lv_at hl 1 rfl) ?_
    refine lv_iload_n (pc := 160) hx hb dM_become_160 rfl (lv_at hl 2 rfl) ?_
    have hg := jwr_e hf; clear hf; obtain ⟨h22, σ21, e23, hf⟩ := hg
    refine j_iast (pc := 161) (ws' := mC ca ad σ21) S hw 2 1 mg_2 mt_2 h22 (by rw [e23]; exact ms_2) dM_become_161 (fun H locs hw => ?_)
    refine lv_aload_n (pc := 162) hx hb dM_become_162 rfl (lv_at hl 0 rfl) ?_
    refine j_get (pc := 163) (v := .ref (ad 3)) S hw inM 0 6 4 mg_0 rfl (by decide) k_600 rfl dM_become_163 ?_
    refine lv_iload_n (pc := 166) hx hb dM_become_166 rfl (lv_at hl 1 rfl) ?_
    refine lv_iload_n (pc := 167) hx hb dM_become_167 rfl (lv_at hl 3 rfl) ?_
    have hg := jwr_e hf; clear hf; obtain ⟨h25, σ24, e26, hf⟩ := hg
    refine j_iast (pc := 168) (ws' := mC ca ad σ24) S hw 3 2 mg_3 mt_3 h25 (by rw [e26]; exact ms_3) dM_become_168 (fun H locs hw => ?_)
    refine lv_iload (pc := 169) hx hb dM_become_169 (lv_at hl 5 rfl) ?_
    obtain rfl := jsm hf
    exact j_iret (pc := 171) S hw hr hlk dM_become_171
  · replace hf := jif hf hc
    refine lv_aload_n (pc := 146) hx hb dM_become_146 rfl (lv_at hl 0 rfl) ?_
    refine lv_iconst (pc := 147) (v := (2 : Int32)) hx hb dM_become_147 (by decide) ?_
    refine lv_iconst (pc := 148) (v := (3 : Int32)) hx hb dM_become_148 (by decide) ?_
    refine lv_iconst (pc := 149) (v := (0 : Int32)) hx hb dM_become_149 (by decide) ?_
    refine lv_iconst (pc := 150) (v := (0 : Int32)) hx hb dM_become_150 (by decide) ?_
    refine lv_iconst (pc := 151) (v := (0 : Int32)) hx hb dM_become_151 (by decide) ?_
    have hg := jbn_e hf; clear hf; obtain ⟨q27, h28, hf⟩ := hg
    refine j_callv (pc := 152) (C := mC ca ad) (σ' := q27) hw hA (va_runV (As := [.int (2 : Int32), .int (3 : Int32), .int (0 : Int32), .int (0 : Int32), .int (0 : Int32)]) (rest := []) S (kM_note l D ca ad _ σ19 (2 : Int32) (3 : Int32) (0 : Int32) (0 : Int32) (0 : Int32) q27 h28) (cwV 5 S.2.2.2.2 (jgV k_723 k_725 ks_21 k_7 k_726) rfl rfl rfl (by decide +kernel) ⟨Nat.le_of_ble_eq_true rfl, Nat.le_of_ble_eq_true rfl⟩) (j_preV (As := [.int (2 : Int32), .int (3 : Int32), .int (0 : Int32), .int (0 : Int32), .int (0 : Int32)]) hw mN_b (mN_to hN hw hA) rfl mg_0) rfl rfl hl.1 rfl (lv_room (Nat.le_of_ble_eq_true rfl)) dM_become_152 ⟨Nat.le_of_ble_eq_true rfl, Nat.le_of_ble_eq_true rfl⟩) (fun H locs hw => ?_)
    refine lv_aload_n (pc := 155) hx hb dM_become_155 rfl (lv_at hl 0 rfl) ?_
    refine j_get (pc := 156) (v := .ref (ad 2)) S hw inM 0 6 3 mg_0 rfl (by decide) k_599 rfl dM_become_156 ?_
    refine lv_iload_n (pc := 159) hx hb dM_become_159 rfl (lv_at hl 1 rfl) ?_
    refine lv_iload_n (pc := 160) hx hb dM_become_160 rfl (lv_at hl 2 rfl) ?_
    have hg := jwr_e hf; clear hf; obtain ⟨h30, σ29, e31, hf⟩ := hg
    refine j_iast (pc := 161) (ws' := mC ca ad σ29) S hw 2 1 mg_2 mt_2 h30 (by rw [e31]; exact ms_2) dM_become_161 (fun H locs hw => ?_)
    refine lv_aload_n (pc := 162) hx hb dM_become_162 rfl (lv_at hl 0 rfl) ?_
    refine j_get (pc := 163) (v := .ref (ad 3)) S hw inM 0 6 4 mg_0 rfl (by decide) k_600 rfl dM_become_163 ?_
    refine lv_iload_n (pc := 166) hx hb dM_become_166 rfl (lv_at hl 1 rfl) ?_
    refine lv_iload_n (pc := 167) hx hb dM_become_167 rfl (lv_at hl 3 rfl) ?_
    have hg := jwr_e hf; clear hf; obtain ⟨h33, σ32, e34, hf⟩ := hg
    refine j_iast (pc := 168) (ws' := mC ca ad σ32) S hw 3 2 mg_3 mt_3 h33 (by rw [e34]; exact ms_3) dM_become_168 (fun H locs hw => ?_)
    refine lv_iload (pc := 169) hx hb dM_become_169 (lv_at hl 5 rfl) ?_
    obtain rfl := jsm hf
    exact j_iret (pc := 171) S hw hr hlk dM_become_171
set_option maxHeartbeats 4000000 in
set_option maxRecDepth 100000 in
theorem bM_become {p : Program} {l : Launch} {e : Env} {s : State} {m : MethodId} {args : Array Value} {below : List Frame} {meth : Method} {c : Code} {D : va_G} {ca : Nat → ClassId} {ad : Nat → Nat} {A : Nat → Prop} (hA : ∀ q, s.heap.size ≤ q → A q) (S : CallFix p m c cM_become 8 s args jall RM) (hN : mN A s) (hr : meth.sig.returnType = some .int) (hlk : meth.locks = false) (out : Int32 × JS) (σ : JS) (x1 : Int32) (x2 : Int32) (x3 : Int32) (ls : Array Slot) (hl : lv_has ls 8 [(0, .ref (ad 0)), (1, .int x1), (2, .int x2), (3, .int x3)]) (hw : jH D (mT ca) (mC ca ad σ) A s.heap s.heap [] s) (hf : mM_become σ x1 x2 x3 = some out) : W p l e (headSpec wsM_become rmM_become).room s m args below meth c s.heap [] 0 0 (MQ below (jQi D (mT ca) (mC ca ad) A out.1 out.2) args s 0 0 A) (F0 m 0 ls []) := by
  have hx := S.1
  have hb := S.2.1
  unfold mM_become at hf
  refine lv_aload_n (pc := 0) hx hb dM_become_0 rfl (lv_at hl 0 rfl) ?_
  refine j_get (pc := 1) (v := .int (σ 100 2)) S hw inM 0 6 5 mg_0 rfl (by decide) k_601 rfl dM_become_1 ?_
  refine lv_istore (pc := 4) (lv' := [(4, .int (σ 100 2)), (0, .ref (ad 0)), (1, .int x1), (2, .int x2), (3, .int x3)]) hx hb dM_become_4 hl (by decide) rfl (fun ls hl => ?_)
  refine lv_iconst (pc := 6) (v := (0 : Int32)) hx hb dM_become_6 (by decide) ?_
  refine lv_istore (pc := 7) (lv' := [(5, .int (0 : Int32)), (4, .int (σ 100 2)), (0, .ref (ad 0)), (1, .int x1), (2, .int x2), (3, .int x3)]) hx hb dM_become_7 hl (by decide) rfl (fun ls hl => ?_)
  refine lv_iconst (pc := 9) (v := (0 : Int32)) hx hb dM_become_9 (by decide) ?_
  refine lv_istore (pc := 10) (lv' := [(6, .int (0 : Int32)), (5, .int (0 : Int32)), (4, .int (σ 100 2)), (0, .ref (ad 0)), (1, .int x1), (2, .int x2), (3, .int x3)]) hx hb dM_become_10 hl (by decide) rfl (fun ls hl => ?_)
  refine wmM_become_L12 hA S hN hr hlk out _ σ x1 x2 x3 (σ 100 2) (fun z8 z9 ls hl hw hf => ?_) 999 (0 : Int32) (0 : Int32) _ (lv_sub hl [3, 4, 5, 6, 2, 1, 0] rfl) hw hf
  try dsimp only at hf
  refine lv_iload (pc := 60) hx hb dM_become_60 (lv_at hl 5 rfl) ?_
  refine lv_if_le (pc := 62) (tgt := 87) hx hb dM_become_62 (by decide) (fun hc => ?_) (fun hc => ?_)
  · replace hf := jit hf hc
    exact wmM_become_J87 hA S hN hr hlk out σ x1 x2 x3 (σ 100 2) z8 _ (lv_sub hl [0, 1, 2, 3, 4, 5] rfl) hw hf
  · replace hf := jif hf hc
    refine lv_aload_n (pc := 65) hx hb dM_become_65 rfl (lv_at hl 0 rfl) ?_
    have hg := jbn_e hf; clear hf; obtain ⟨q35, h36, hf⟩ := hg
    refine j_cpi (pc := 66) (v := q35) (va_runV (As := []) (rest := []) S (kM_room l D ca ad _ σ  q35 h36) (cwV 0 S.2.2.2.2 (jgV k_711 k_713 ks_27 k_7 k_714) rfl rfl rfl (by decide +kernel) ⟨Nat.le_of_ble_eq_true rfl, Nat.le_of_ble_eq_true rfl⟩) (j_preV (As := []) hw mN_b (mN_to hN hw hA) rfl mg_0) rfl rfl hl.1 rfl (lv_room (Nat.le_of_ble_eq_true rfl)) dM_become_66 ⟨Nat.le_of_ble_eq_true rfl, Nat.le_of_ble_eq_true rfl⟩) ?_
    refine lv_iload (pc := 69) hx hb dM_become_69 (lv_at hl 5 rfl) ?_
    refine lv_isub (pc := 71) hx hb dM_become_71 ?_
    refine lv_iconst (pc := 72) (v := (1 : Int32)) hx hb dM_become_72 (by decide) ?_
    refine lv_isub (pc := 73) hx hb dM_become_73 ?_
    refine lv_aload_n (pc := 74) hx hb dM_become_74 rfl (lv_at hl 0 rfl) ?_
    have hg := jbn_e hf; clear hf; obtain ⟨q37, h38, hf⟩ := hg
    refine j_cpi (pc := 75) (v := q37) (va_runV (As := []) (rest := [.int ((q35 - z8) - (1 : Int32))]) S (kM_reserve l D ca ad _ σ  q37 h38) (cwV 0 S.2.2.2.2 (jgV k_695 k_697 ks_24 k_7 k_698) rfl rfl rfl (by decide +kernel) ⟨Nat.le_of_ble_eq_true rfl, Nat.le_of_ble_eq_true rfl⟩) (j_preV (As := []) hw mN_b (mN_to hN hw hA) rfl mg_0) rfl rfl hl.1 rfl (lv_room (Nat.le_of_ble_eq_true rfl)) dM_become_75 ⟨Nat.le_of_ble_eq_true rfl, Nat.le_of_ble_eq_true rfl⟩) ?_
    refine lv_icmp_ge (pc := 78) (tgt := 87) hx hb dM_become_78 (by decide) (fun hc => ?_) (fun hc => ?_)
    · replace hf := jit hf hc
      exact wmM_become_J87 hA S hN hr hlk out σ x1 x2 x3 (σ 100 2) z8 _ (lv_sub hl [0, 1, 2, 3, 4, 5] rfl) hw hf
    · replace hf := jif hf hc
      refine lv_aload_n (pc := 81) hx hb dM_become_81 rfl (lv_at hl 0 rfl) ?_
      refine lv_iconst (pc := 82) (v := (2 : Int32)) hx hb dM_become_82 (by decide) ?_
      have hg := jbn_e hf; clear hf; obtain ⟨q39, h40, hf⟩ := hg
      refine j_calli (pc := 83) (C := mC ca ad) (σ' := q39.2) (v := q39.1) hw hA (va_runV (As := [.int (2 : Int32)]) (rest := []) S (kM_refuse l D ca ad _ σ (2 : Int32) q39 h40) (cwV 1 S.2.2.2.2 (jgV k_715 k_717 ks_25 k_7 k_718) rfl rfl rfl (by decide +kernel) ⟨Nat.le_of_ble_eq_true rfl, Nat.le_of_ble_eq_true rfl⟩) (j_preV (As := [.int (2 : Int32)]) hw mN_b (mN_to hN hw hA) rfl mg_0) rfl rfl hl.1 rfl (lv_room (Nat.le_of_ble_eq_true rfl)) dM_become_83 ⟨Nat.le_of_ble_eq_true rfl, Nat.le_of_ble_eq_true rfl⟩) (fun H locs hw => ?_)
      obtain rfl := jsm hf
      exact j_iret (pc := 86) S hw hr hlk dM_become_86
set_option maxHeartbeats 4000000 in
set_option maxRecDepth 100000 in
theorem kM_become (l : Launch) (D : va_G) (ca : Nat → ClassId) (ad : Nat → Nat) (sz : Nat) (σ : JS) (x1 : Int32) (x2 : Int32) (x3 : Int32) (out : Int32 × JS) (hf : mM_become σ x1 x2 x3 = some out) : Met l yM_become wsM_become rmM_become (jPre D (mT ca) (mC ca ad σ) (mN (va_A (mC ca ad σ) sz)) sz [.ref (ad 0), .int x1, .int x2, .int x3]) (jQi D (mT ca) (mC ca ad) (va_A (mC ca ad σ) sz) out.1 out.2) 0 0 (va_A (mC ca ad σ) sz) := by
  refine Met.ofW (cc := cM_become) (maxL := 8) (ret := some .int) (by decide) rfl ?_
  intro p e s m args below meth c s₁ B hml hv
  obtain ⟨rfl, hsz, hP, hK, hD0, hN⟩ := hv
  subst hsz
  have hl := lv_entry [.ref (ad 0), .int x1, .int x2, .int x3] (n := 8) (Nat.le_of_ble_eq_true rfl)
  rw [lg_entry_eq]
  generalize (lg_sl [.ref (ad 0), .int x1, .int x2, .int x3] ++ List.replicate (8 - (lg_sl [.ref (ad 0), .int x1, .int x2, .int x3]).length) Slot.unset).toArray = ls at hl ⊢
  exact bM_become (fun q h => Or.inr h) ⟨B.exec, B.bytes, hml, findClass_of_methodNamed B.named, fun w h => atoms_spec (ws := wsM_become) B.pre w (List.mem_cons_of_mem _ h)⟩ hN B.returns B.notSynchronized out σ x1 x2 x3 ls hl ⟨hP, hD0.self, va_S.rf, hK⟩ hf

def rmM_restore : Room := { frames := 4, cells := 0, slots := 0, locals := 101 }
def mM_restore_J15 (σ : JS) (x1 : Int32) (y0 : Int32) : Option (Int32 × JS) :=
  jst (jw2 σ 100 0 y0) fun σ3 =>
  if (σ3 100 0) ≤ 0 then
  (jrd σ3 12 4 x1 fun v5 =>
  if (σ3 100 5) = 0 then
  (if v5 < 0 then
  (jbn (mM_refuse σ3 (2 : Int32)) fun q10 =>
  some (q10.1, q10.2))
  else
  (jbn (mM_isOn σ3 v5 (σ3 100 2)) fun q12 =>
  if q12 = 0 then
  (jrd σ3 13 4 x1 fun v14 =>
  jbn (mM_become σ3 v5 v14 ((σ3 100 2) + (1 : Int32))) fun q17 =>
  some (q17.1, q17.2))
  else
  (jbn (mM_refuse σ3 (2 : Int32)) fun q19 =>
  some (q19.1, q19.2))))
  else
  (jbn (mM_refuse σ3 (2 : Int32)) fun q8 =>
  some (q8.1, q8.2)))
  else
  (some ((0 : Int32), σ3))
def mM_restore (σ : JS) (x1 : Int32) : Option (Int32 × JS) :=
  jbn (mM_within σ x1 (0 : Int32) (3 : Int32)) fun q1 =>
  if q1 = 0 then
  (mM_restore_J15 σ x1 (1 : Int32))
  else
  (mM_restore_J15 σ x1 (0 : Int32))
set_option maxHeartbeats 4000000 in
set_option maxRecDepth 100000 in
theorem wmM_restore_J15 {p : Program} {l : Launch} {e : Env} {s : State} {m : MethodId} {args : Array Value} {below : List Frame} {meth : Method} {c : Code} {D : va_G} {ca : Nat → ClassId} {ad : Nat → Nat} {A : Nat → Prop} (hA : ∀ q, s.heap.size ≤ q → A q) (S : CallFix p m c cM_restore 3 s args jall RM) (hN : mN A s) (hr : meth.sig.returnType = some .int) (hlk : meth.locks = false) (out : Int32 × JS) (σ : JS) (x1 : Int32) (y0 : Int32) (ls : Array Slot) (hl : lv_has ls 3 [(0, .ref (ad 0)), (1, .int x1)]) (hw : jH D (mT ca) (mC ca ad σ) A s.heap s.heap [] s) (hf : mM_restore_J15 σ x1 y0 = some out) : W p l e (headSpec wsM_restore rmM_restore).room s m args below meth c s.heap [] 0 0 (MQ below (jQi D (mT ca) (mC ca ad) A out.1 out.2) args s 0 0 A) (F0 m 15 ls [.int y0, .ref (ad 0)]) := by
  have hx := S.1
  have hb := S.2.1
  unfold mM_restore_J15 at hf
  have hg := jst_e hf; clear hf; obtain ⟨σ3, e4, hf⟩ := hg
  refine j_put (pc := 15) (v := .int y0) (ws' := mC ca ad σ3) S hw inM tyM tyM_ok nmM 0 6 0 mg_0 rfl (by decide) k_596 rfl rfl rfl (Nat.le_of_ble_eq_true rfl) (by rw [e4]; exact mp_0) dM_restore_15 (fun H locs hw => ?_)
  refine lv_aload_n (pc := 18) hx hb dM_restore_18 rfl (lv_at hl 0 rfl) ?_
  refine j_get (pc := 19) (v := .int (σ3 100 0)) S hw inM 0 6 0 mg_0 rfl (by decide) k_596 rfl dM_restore_19 ?_
  refine lv_if_le (pc := 22) (tgt := 27) hx hb dM_restore_22 (by decide) (fun hc => ?_) (fun hc => ?_)
  · replace hf := jit hf hc
    refine lv_aload_n (pc := 27) hx hb dM_restore_27 rfl (lv_at hl 0 rfl) ?_
    refine j_get (pc := 28) (v := .ref (ad 12)) S hw inM 0 6 18 mg_0 rfl (by decide) k_614 rfl dM_restore_28 ?_
    refine lv_iload_n (pc := 31) hx hb dM_restore_31 rfl (lv_at hl 1 rfl) ?_
    have hg := jrd_e hf; clear hf; obtain ⟨h6, v5, e7, hf⟩ := hg
    refine j_iald (pc := 32) S hw 12 11 mg_12 mt_12 h6 e7 dM_restore_32 ?_
    refine lv_istore_n (pc := 33) (lv' := [(2, .int v5), (0, .ref (ad 0)), (1, .int x1)]) hx hb dM_restore_33 rfl hl (by decide) rfl (fun ls hl => ?_)
    refine lv_aload_n (pc := 34) hx hb dM_restore_34 rfl (lv_at hl 1 rfl) ?_
    refine j_get (pc := 35) (v := .int (σ3 100 5)) S hw inM 0 6 8 mg_0 rfl (by decide) k_604 rfl dM_restore_35 ?_
    refine lv_if_ne (pc := 38) (tgt := 57) hx hb dM_restore_38 (by decide) (fun hc => ?_) (fun hc => ?_)
    · replace hf := jif hf hc
      refine lv_aload_n (pc := 57) hx hb dM_restore_57 rfl (lv_at hl 1 rfl) ?_
      refine lv_iconst (pc := 58) (v := (2 : Int32)) hx hb dM_restore_58 (by decide) ?_
      have hg := jbn_e hf; clear hf; obtain ⟨q8, h9, hf⟩ := hg
      refine j_calli (pc := 59) (C := mC ca ad) (σ' := q8.2) (v := q8.1) hw hA (va_runV (As := [.int (2 : Int32)]) (rest := []) S (kM_refuse l D ca ad _ σ3 (2 : Int32) q8 h9) (cwV 1 S.2.2.2.2 (jgV k_715 k_717 ks_25 k_7 k_718) rfl rfl rfl (by decide +kernel) ⟨Nat.le_of_ble_eq_true rfl, Nat.le_of_ble_eq_true rfl⟩) (j_preV (As := [.int (2 : Int32)]) hw mN_b (mN_to hN hw hA) rfl mg_0) rfl rfl hl.1 rfl (lv_room (Nat.le_of_ble_eq_true rfl)) dM_restore_59 ⟨Nat.le_of_ble_eq_true rfl, Nat.le_of_ble_eq_true rfl⟩) (fun H locs hw => ?_)
      obtain rfl := jsm hf
      exact j_iret (pc := 62) S hw hr hlk dM_restore_62
    · replace hf := jit hf hc
      refine lv_iload_n (pc := 41) hx hb dM_restore_41 rfl (lv_at hl 0 rfl) ?_
      refine lv_if_lt (pc := 42) (tgt := 57) hx hb dM_restore_42 (by decide) (fun hc => ?_) (fun hc => ?_)
      · replace hf := jit hf hc
        refine lv_aload_n (pc := 57) hx hb dM_restore_57 rfl (lv_at hl 1 rfl) ?_
        refine lv_iconst (pc := 58) (v := (2 : Int32)) hx hb dM_restore_58 (by decide) ?_
        have hg := jbn_e hf; clear hf; obtain ⟨q10, h11, hf⟩ := hg
        refine j_calli (pc := 59) (C := mC ca ad) (σ' := q10.2) (v := q10.1) hw hA (va_runV (As := [.int (2 : Int32)]) (rest := []) S (kM_refuse l D ca ad _ σ3 (2 : Int32) q10 h11) (cwV 1 S.2.2.2.2 (jgV k_715 k_717 ks_25 k_7 k_718) rfl rfl rfl (by decide +kernel) ⟨Nat.le_of_ble_eq_true rfl, Nat.le_of_ble_eq_true rfl⟩) (j_preV (As := [.int (2 : Int32)]) hw mN_b (mN_to hN hw hA) rfl mg_0) rfl rfl hl.1 rfl (lv_room (Nat.le_of_ble_eq_true rfl)) dM_restore_59 ⟨Nat.le_of_ble_eq_true rfl, Nat.le_of_ble_eq_true rfl⟩) (fun H locs hw => ?_)
        obtain rfl := jsm hf
        exact j_iret (pc := 62) S hw hr hlk dM_restore_62
      · replace hf := jif hf hc
        refine lv_aload_n (pc := 45) hx hb dM_restore_45 rfl (lv_at hl 1 rfl) ?_
        refine lv_iload_n (pc := 46) hx hb dM_restore_46 rfl (lv_at hl 0 rfl) ?_
        refine lv_aload_n (pc := 47) hx hb dM_restore_47 rfl (lv_at hl 1 rfl) ?_
        refine j_get (pc := 48) (v := .int (σ3 100 2)) S hw inM 0 6 5 mg_0 rfl (by decide) k_601 rfl dM_restore_48 ?_
        have hg := jbn_e hf; clear hf; obtain ⟨q12, h13, hf⟩ := hg
        refine j_cpi (pc := 51) (v := q12) (va_runV (As := [.int v5, .int (σ3 100 2)]) (rest := []) S (kM_isOn l D ca ad _ σ3 v5 (σ3 100 2) q12 h13) (cwV 2 S.2.2.2.2 (jgV k_756 k_758 ks_30 k_7 k_759) rfl rfl rfl (by decide +kernel) ⟨Nat.le_of_ble_eq_true rfl, Nat.le_of_ble_eq_true rfl⟩) (j_preV (As := [.int v5, .int (σ3 100 2)]) hw mN_b (mN_to hN hw hA) rfl mg_0) rfl rfl hl.1 rfl (lv_room (Nat.le_of_ble_eq_true rfl)) dM_restore_51 ⟨Nat.le_of_ble_eq_true rfl, Nat.le_of_ble_eq_true rfl⟩) ?_
        refine lv_if_eq (pc := 54) (tgt := 63) hx hb dM_restore_54 (by decide) (fun hc => ?_) (fun hc => ?_)
        · replace hf := jit hf hc
          refine lv_aload_n (pc := 63) hx hb dM_restore_63 rfl (lv_at hl 1 rfl) ?_
          refine lv_iload_n (pc := 64) hx hb dM_restore_64 rfl (lv_at hl 0 rfl) ?_
          refine lv_aload_n (pc := 65) hx hb dM_restore_65 rfl (lv_at hl 1 rfl) ?_
          refine j_get (pc := 66) (v := .ref (ad 13)) S hw inM 0 6 19 mg_0 rfl (by decide) k_615 rfl dM_restore_66 ?_
          refine lv_iload_n (pc := 69) hx hb dM_restore_69 rfl (lv_at hl 2 rfl) ?_
          have hg := jrd_e hf; clear hf; obtain ⟨h15, v14, e16, hf⟩ := hg
          refine j_iald (pc := 70) S hw 13 12 mg_13 mt_13 h15 e16 dM_restore_70 ?_
          refine lv_aload_n (pc := 71) hx hb dM_restore_71 rfl (lv_at hl 1 rfl) ?_
          refine j_get (pc := 72) (v := .int (σ3 100 2)) S hw inM 0 6 5 mg_0 rfl (by decide) k_601 rfl dM_restore_72 ?_
          refine lv_iconst (pc := 75) (v := (1 : Int32)) hx hb dM_restore_75 (by decide) ?_
          refine lv_iadd (pc := 76) hx hb dM_restore_76 ?_
          have hg := jbn_e hf; clear hf; obtain ⟨q17, h18, hf⟩ := hg
          refine j_calli (pc := 77) (C := mC ca ad) (σ' := q17.2) (v := q17.1) hw hA (va_runV (As := [.int v5, .int v14, .int ((σ3 100 2) + (1 : Int32))]) (rest := []) S (kM_become l D ca ad _ σ3 v5 v14 ((σ3 100 2) + (1 : Int32)) q17 h18) (cwV 3 S.2.2.2.2 (jgV k_764 k_766 ks_31 k_7 k_767) rfl rfl rfl (by decide +kernel) ⟨Nat.le_of_ble_eq_true rfl, Nat.le_of_ble_eq_true rfl⟩) (j_preV (As := [.int v5, .int v14, .int ((σ3 100 2) + (1 : Int32))]) hw mN_b (mN_to hN hw hA) rfl mg_0) rfl rfl hl.1 rfl (lv_room (Nat.le_of_ble_eq_true rfl)) dM_restore_77 ⟨Nat.le_of_ble_eq_true rfl, Nat.le_of_ble_eq_true rfl⟩) (fun H locs hw => ?_)
          obtain rfl := jsm hf
          exact j_iret (pc := 80) S hw hr hlk dM_restore_80
        · replace hf := jif hf hc
          refine lv_aload_n (pc := 57) hx hb dM_restore_57 rfl (lv_at hl 1 rfl) ?_
          refine lv_iconst (pc := 58) (v := (2 : Int32)) hx hb dM_restore_58 (by decide) ?_
          have hg := jbn_e hf; clear hf; obtain ⟨q19, h20, hf⟩ := hg
          refine j_calli (pc := 59) (C := mC ca ad) (σ' := q19.2) (v := q19.1) hw hA (va_runV (As := [.int (2 : Int32)]) (rest := []) S (kM_refuse l D ca ad _ σ3 (2 : Int32) q19 h20) (cwV 1 S.2.2.2.2 (jgV k_715 k_717 ks_25 k_7 k_718) rfl rfl rfl (by decide +kernel) ⟨Nat.le_of_ble_eq_true rfl, Nat.le_of_ble_eq_true rfl⟩) (j_preV (As := [.int (2 : Int32)]) hw mN_b (mN_to hN hw hA) rfl mg_0) rfl rfl hl.1 rfl (lv_room (Nat.le_of_ble_eq_true rfl)) dM_restore_59 ⟨Nat.le_of_ble_eq_true rfl, Nat.le_of_ble_eq_true rfl⟩) (fun H locs hw => ?_)
          obtain rfl := jsm hf
          exact j_iret (pc := 62) S hw hr hlk dM_restore_62
  · replace hf := jif hf hc
    refine lv_iconst (pc := 25) (v := (0 : Int32)) hx hb dM_restore_25 (by decide) ?_
    obtain rfl := jsm hf
    exact j_iret (pc := 26) S hw hr hlk dM_restore_26
set_option maxHeartbeats 4000000 in
set_option maxRecDepth 100000 in
theorem bM_restore {p : Program} {l : Launch} {e : Env} {s : State} {m : MethodId} {args : Array Value} {below : List Frame} {meth : Method} {c : Code} {D : va_G} {ca : Nat → ClassId} {ad : Nat → Nat} {A : Nat → Prop} (hA : ∀ q, s.heap.size ≤ q → A q) (S : CallFix p m c cM_restore 3 s args jall RM) (hN : mN A s) (hr : meth.sig.returnType = some .int) (hlk : meth.locks = false) (out : Int32 × JS) (σ : JS) (x1 : Int32) (ls : Array Slot) (hl : lv_has ls 3 [(0, .ref (ad 0)), (1, .int x1)]) (hw : jH D (mT ca) (mC ca ad σ) A s.heap s.heap [] s) (hf : mM_restore σ x1 = some out) : W p l e (headSpec wsM_restore rmM_restore).room s m args below meth c s.heap [] 0 0 (MQ below (jQi D (mT ca) (mC ca ad) A out.1 out.2) args s 0 0 A) (F0 m 0 ls []) := by
  have hx := S.1
  have hb := S.2.1
  unfold mM_restore at hf
  refine lv_aload_n (pc := 0) hx hb dM_restore_0 rfl (lv_at hl 0 rfl) ?_
  refine lv_iload_n (pc := 1) hx hb dM_restore_1 rfl (lv_at hl 1 rfl) ?_
  refine lv_iconst (pc := 2) (v := (0 : Int32)) hx hb dM_restore_2 (by decide) ?_
  refine lv_iconst (pc := 3) (v := (3 : Int32)) hx hb dM_restore_3 (by decide) ?_
  have hg := jbn_e hf; clear hf; obtain ⟨q1, h2, hf⟩ := hg
  refine j_cpi (pc := 4) (v := q1) (va_runS (As := [.int x1, .int (0 : Int32), .int (3 : Int32)]) (rest := [.ref (ad 0)]) S (kM_within l D ca ad _ σ x1 (0 : Int32) (3 : Int32) q1 h2) (cwS 3 S.2.2.2.2 (jgS k_680 k_681 k_7 k_682) rfl rfl rfl (by decide +kernel) ⟨Nat.le_of_ble_eq_true rfl, Nat.le_of_ble_eq_true rfl⟩) (j_preS hw mN_b (mN_to hN hw hA)) rfl rfl hl.1 rfl (lv_room (Nat.le_of_ble_eq_true rfl)) dM_restore_4 ⟨Nat.le_of_ble_eq_true rfl, Nat.le_of_ble_eq_true rfl⟩) ?_
  refine lv_if_eq (pc := 7) (tgt := 14) hx hb dM_restore_7 (by decide) (fun hc => ?_) (fun hc => ?_)
  · replace hf := jit hf hc
    refine lv_iconst (pc := 14) (v := (1 : Int32)) hx hb dM_restore_14 (by decide) ?_
    exact wmM_restore_J15 hA S hN hr hlk out σ x1 (1 : Int32) _ (lv_sub hl [0, 1] rfl) hw hf
  · replace hf := jif hf hc
    refine lv_iconst (pc := 10) (v := (0 : Int32)) hx hb dM_restore_10 (by decide) ?_
    refine lv_goto (pc := 11) (tgt := 15) hx hb dM_restore_11 (by decide) ?_
    exact wmM_restore_J15 hA S hN hr hlk out σ x1 (0 : Int32) _ (lv_sub hl [0, 1] rfl) hw hf
set_option maxHeartbeats 4000000 in
set_option maxRecDepth 100000 in
theorem kM_restore (l : Launch) (D : va_G) (ca : Nat → ClassId) (ad : Nat → Nat) (sz : Nat) (σ : JS) (x1 : Int32) (out : Int32 × JS) (hf : mM_restore σ x1 = some out) : Met l yM_restore wsM_restore rmM_restore (jPre D (mT ca) (mC ca ad σ) (mN (va_A (mC ca ad σ) sz)) sz [.ref (ad 0), .int x1]) (jQi D (mT ca) (mC ca ad) (va_A (mC ca ad σ) sz) out.1 out.2) 0 0 (va_A (mC ca ad σ) sz) := by
  refine Met.ofW (cc := cM_restore) (maxL := 3) (ret := some .int) (by decide) rfl ?_
  intro p e s m args below meth c s₁ B hml hv
  obtain ⟨rfl, hsz, hP, hK, hD0, hN⟩ := hv
  subst hsz
  have hl := lv_entry [.ref (ad 0), .int x1] (n := 3) (Nat.le_of_ble_eq_true rfl)
  rw [lg_entry_eq]
  generalize (lg_sl [.ref (ad 0), .int x1] ++ List.replicate (3 - (lg_sl [.ref (ad 0), .int x1]).length) Slot.unset).toArray = ls at hl ⊢
  exact bM_restore (fun q h => Or.inr h) ⟨B.exec, B.bytes, hml, findClass_of_methodNamed B.named, fun w h => atoms_spec (ws := wsM_restore) B.pre w (List.mem_cons_of_mem _ h)⟩ hN B.returns B.notSynchronized out σ x1 ls hl ⟨hP, hD0.self, va_S.rf, hK⟩ hf

def rmM_lacks : Room := { frames := 0, cells := 0, slots := 0, locals := 0 }
def mM_lacks_L8 (σ : JS) (x1 : Int32) (x3 : Int32) : Nat → Int32 → Int32 → Option (Int32)
  | 0, _, _ => none
  | n + 1, x4, x5 =>
    if x3 < x5 then
    (jzc x4 (some x4))
    else
    (if x4 = 0 then
    (jrd σ 4 121 x5 fun v1 =>
    if v1 = (1 : Int32) then
    (jrd σ 6 121 x5 fun v4 =>
    if v4 = x1 then
    (if ((8 : Int32) * (σ 100 3)) < x5 then
    (mM_lacks_L8 σ x1 x3 n (0 : Int32) (x5 + 1))
    else
    (mM_lacks_L8 σ x1 x3 n (1 : Int32) (x5 + 1)))
    else
    (mM_lacks_L8 σ x1 x3 n (0 : Int32) (x5 + 1)))
    else
    (mM_lacks_L8 σ x1 x3 n (0 : Int32) (x5 + 1)))
    else
    (mM_lacks_L8 σ x1 x3 n (1 : Int32) (x5 + 1)))
def mM_lacks (σ : JS) (x1 : Int32) (x2 : Int32) (x3 : Int32) : Option (Int32) :=
  mM_lacks_L8 σ x1 x3 999 (0 : Int32) (x2 + (1 : Int32))
set_option maxHeartbeats 4000000 in
set_option maxRecDepth 100000 in
theorem wmM_lacks_L8 {p : Program} {l : Launch} {e : Env} {s : State} {m : MethodId} {args : Array Value} {below : List Frame} {meth : Method} {c : Code} {D : va_G} {ca : Nat → ClassId} {ad : Nat → Nat} {A : Nat → Prop} (hA : ∀ q, s.heap.size ≤ q → A q) (S : CallFix p m c cM_lacks 6 s args jall RM) (hN : mN A s) (hr : meth.sig.returnType = some .boolean) (hlk : meth.locks = false) (out : Int32) (σ : JS) (x1 : Int32) (x3 : Int32) : ∀ (n : Nat) (x4 : Int32) (x5 : Int32) (ls : Array Slot) , lv_has ls 6 [(0, .ref (ad 0)), (1, .int x1), (3, .int x3), (4, .int x4), (5, .int x5)] → jH D (mT ca) (mC ca ad σ) A s.heap s.heap [] s → mM_lacks_L8 σ x1 x3 n x4 x5 = some out → W p l e (headSpec wsM_lacks rmM_lacks).room s m args below meth c s.heap [] 0 0 (MQ below (jSi out) args s 0 0 (fun _ => False)) (F0 m 8 ls []) := by
  have hx := S.1
  have hb := S.2.1
  intro n
  induction n with
  | zero => intro x4 x5 ls hl hw hf; cases hf
  | succ n ih =>
    intro x4 x5 ls hl hw hf
    rw [mM_lacks_L8] at hf
    refine lv_iload (pc := 8) hx hb dM_lacks_8 (lv_at hl 4 rfl) ?_
    refine lv_iload_n (pc := 10) hx hb dM_lacks_10 rfl (lv_at hl 2 rfl) ?_
    refine lv_icmp_gt (pc := 11) (tgt := 66) hx hb dM_lacks_11 (by decide) (fun hc => ?_) (fun hc => ?_)
    · replace hf := jit hf hc
      refine lv_iload (pc := 66) hx hb dM_lacks_66 (lv_at hl 3 rfl) ?_
      have hg := jzc_e hf; clear hf; obtain ⟨hz9, hf⟩ := hg
      obtain rfl := jsm hf
      exact j_zpr (pc := 68) S hr hlk hz9 dM_lacks_68
    · replace hf := jif hf hc
      refine lv_iload (pc := 14) hx hb dM_lacks_14 (lv_at hl 3 rfl) ?_
      refine lv_if_ne (pc := 16) (tgt := 53) hx hb dM_lacks_16 (by decide) (fun hc => ?_) (fun hc => ?_)
      · replace hf := jif hf hc
        refine lv_iconst (pc := 53) (v := (1 : Int32)) hx hb dM_lacks_53 (by decide) ?_
        refine lv_goto (pc := 54) (tgt := 58) hx hb dM_lacks_54 (by decide) ?_
        refine lv_istore (pc := 58) (lv' := [(4, .int (1 : Int32)), (0, .ref (ad 0)), (1, .int x1), (3, .int x3), (5, .int x5)]) hx hb dM_lacks_58 hl (by decide) rfl (fun ls hl => ?_)
        refine lv_iinc (pc := 60) (v := (x5 + 1)) (k := 4) (lv' := [(5, .int (x5 + 1)), (4, .int (1 : Int32)), (0, .ref (ad 0)), (1, .int x1), (3, .int x3)]) hx hb dM_lacks_60 hl rfl (j_inc _ (by decide)) (by decide) rfl (fun ls hl => ?_)
        refine lv_goto (pc := 63) (tgt := 8) hx hb dM_lacks_63 (by decide) ?_
        exact ih (1 : Int32) (x5 + 1) _ (lv_sub hl [2, 3, 4, 1, 0] rfl) hw hf
      · replace hf := jit hf hc
        refine lv_aload_n (pc := 19) hx hb dM_lacks_19 rfl (lv_at hl 0 rfl) ?_
        refine j_get (pc := 20) (v := .ref (ad 4)) S hw inM 0 6 9 mg_0 rfl (by decide) k_605 rfl dM_lacks_20 ?_
        refine lv_iload (pc := 23) hx hb dM_lacks_23 (lv_at hl 4 rfl) ?_
        have hg := jrd_e hf; clear hf; obtain ⟨h2, v1, e3, hf⟩ := hg
        refine j_iald (pc := 25) S hw 4 3 mg_4 mt_4 h2 e3 dM_lacks_25 ?_
        refine lv_iconst (pc := 26) (v := (1 : Int32)) hx hb dM_lacks_26 (by decide) ?_
        refine lv_icmp_ne (pc := 27) (tgt := 57) hx hb dM_lacks_27 (by decide) (fun hc => ?_) (fun hc => ?_)
        · replace hf := jif hf hc
          refine lv_iconst (pc := 57) (v := (0 : Int32)) hx hb dM_lacks_57 (by decide) ?_
          refine lv_istore (pc := 58) (lv' := [(4, .int (0 : Int32)), (0, .ref (ad 0)), (1, .int x1), (3, .int x3), (5, .int x5)]) hx hb dM_lacks_58 hl (by decide) rfl (fun ls hl => ?_)
          refine lv_iinc (pc := 60) (v := (x5 + 1)) (k := 4) (lv' := [(5, .int (x5 + 1)), (4, .int (0 : Int32)), (0, .ref (ad 0)), (1, .int x1), (3, .int x3)]) hx hb dM_lacks_60 hl rfl (j_inc _ (by decide)) (by decide) rfl (fun ls hl => ?_)
          refine lv_goto (pc := 63) (tgt := 8) hx hb dM_lacks_63 (by decide) ?_
          exact ih (0 : Int32) (x5 + 1) _ (lv_sub hl [2, 3, 4, 1, 0] rfl) hw hf
        · replace hf := jit hf hc
          refine lv_aload_n (pc := 30) hx hb dM_lacks_30 rfl (lv_at hl 0 rfl) ?_
          refine j_get (pc := 31) (v := .ref (ad 6)) S hw inM 0 6 11 mg_0 rfl (by decide) k_607 rfl dM_lacks_31 ?_
          refine lv_iload (pc := 34) hx hb dM_lacks_34 (lv_at hl 4 rfl) ?_
          have hg := jrd_e hf; clear hf; obtain ⟨h5, v4, e6, hf⟩ := hg
          refine j_iald (pc := 36) S hw 6 5 mg_6 mt_6 h5 e6 dM_lacks_36 ?_
          refine lv_iload_n (pc := 37) hx hb dM_lacks_37 rfl (lv_at hl 1 rfl) ?_
          refine lv_icmp_ne (pc := 38) (tgt := 57) hx hb dM_lacks_38 (by decide) (fun hc => ?_) (fun hc => ?_)
          · replace hf := jif hf hc
            refine lv_iconst (pc := 57) (v := (0 : Int32)) hx hb dM_lacks_57 (by decide) ?_
            refine lv_istore (pc := 58) (lv' := [(4, .int (0 : Int32)), (0, .ref (ad 0)), (1, .int x1), (3, .int x3), (5, .int x5)]) hx hb dM_lacks_58 hl (by decide) rfl (fun ls hl => ?_)
            refine lv_iinc (pc := 60) (v := (x5 + 1)) (k := 4) (lv' := [(5, .int (x5 + 1)), (4, .int (0 : Int32)), (0, .ref (ad 0)), (1, .int x1), (3, .int x3)]) hx hb dM_lacks_60 hl rfl (j_inc _ (by decide)) (by decide) rfl (fun ls hl => ?_)
            refine lv_goto (pc := 63) (tgt := 8) hx hb dM_lacks_63 (by decide) ?_
            exact ih (0 : Int32) (x5 + 1) _ (lv_sub hl [2, 3, 4, 1, 0] rfl) hw hf
          · replace hf := jit hf hc
            refine lv_iload (pc := 41) hx hb dM_lacks_41 (lv_at hl 4 rfl) ?_
            refine lv_bipush (pc := 43) (v := (8 : Int32)) hx hb dM_lacks_43 (by decide) ?_
            refine lv_aload_n (pc := 45) hx hb dM_lacks_45 rfl (lv_at hl 0 rfl) ?_
            refine j_get (pc := 46) (v := .int (σ 100 3)) S hw inM 0 6 6 mg_0 rfl (by decide) k_602 rfl dM_lacks_46 ?_
            refine lv_imul (pc := 49) hx hb dM_lacks_49 ?_
            refine lv_icmp_gt (pc := 50) (tgt := 57) hx hb dM_lacks_50 (by decide) (fun hc => ?_) (fun hc => ?_)
            · replace hf := jit hf hc
              refine lv_iconst (pc := 57) (v := (0 : Int32)) hx hb dM_lacks_57 (by decide) ?_
              refine lv_istore (pc := 58) (lv' := [(4, .int (0 : Int32)), (0, .ref (ad 0)), (1, .int x1), (3, .int x3), (5, .int x5)]) hx hb dM_lacks_58 hl (by decide) rfl (fun ls hl => ?_)
              refine lv_iinc (pc := 60) (v := (x5 + 1)) (k := 4) (lv' := [(5, .int (x5 + 1)), (4, .int (0 : Int32)), (0, .ref (ad 0)), (1, .int x1), (3, .int x3)]) hx hb dM_lacks_60 hl rfl (j_inc _ (by decide)) (by decide) rfl (fun ls hl => ?_)
              refine lv_goto (pc := 63) (tgt := 8) hx hb dM_lacks_63 (by decide) ?_
              exact ih (0 : Int32) (x5 + 1) _ (lv_sub hl [2, 3, 4, 1, 0] rfl) hw hf
            · replace hf := jif hf hc
              refine lv_iconst (pc := 53) (v := (1 : Int32)) hx hb dM_lacks_53 (by decide) ?_
              refine lv_goto (pc := 54) (tgt := 58) hx hb dM_lacks_54 (by decide) ?_
              refine lv_istore (pc := 58) (lv' := [(4, .int (1 : Int32)), (0, .ref (ad 0)), (1, .int x1), (3, .int x3), (5, .int x5)]) hx hb dM_lacks_58 hl (by decide) rfl (fun ls hl => ?_)
              refine lv_iinc (pc := 60) (v := (x5 + 1)) (k := 4) (lv' := [(5, .int (x5 + 1)), (4, .int (1 : Int32)), (0, .ref (ad 0)), (1, .int x1), (3, .int x3)]) hx hb dM_lacks_60 hl rfl (j_inc _ (by decide)) (by decide) rfl (fun ls hl => ?_)
              refine lv_goto (pc := 63) (tgt := 8) hx hb dM_lacks_63 (by decide) ?_
              exact ih (1 : Int32) (x5 + 1) _ (lv_sub hl [2, 3, 4, 1, 0] rfl) hw hf
set_option maxHeartbeats 4000000 in
set_option maxRecDepth 100000 in
theorem bM_lacks {p : Program} {l : Launch} {e : Env} {s : State} {m : MethodId} {args : Array Value} {below : List Frame} {meth : Method} {c : Code} {D : va_G} {ca : Nat → ClassId} {ad : Nat → Nat} {A : Nat → Prop} (hA : ∀ q, s.heap.size ≤ q → A q) (S : CallFix p m c cM_lacks 6 s args jall RM) (hN : mN A s) (hr : meth.sig.returnType = some .boolean) (hlk : meth.locks = false) (out : Int32) (σ : JS) (x1 : Int32) (x2 : Int32) (x3 : Int32) (ls : Array Slot) (hl : lv_has ls 6 [(0, .ref (ad 0)), (1, .int x1), (2, .int x2), (3, .int x3)]) (hw : jH D (mT ca) (mC ca ad σ) A s.heap s.heap [] s) (hf : mM_lacks σ x1 x2 x3 = some out) : W p l e (headSpec wsM_lacks rmM_lacks).room s m args below meth c s.heap [] 0 0 (MQ below (jSi out) args s 0 0 (fun _ => False)) (F0 m 0 ls []) := by
  have hx := S.1
  have hb := S.2.1
  unfold mM_lacks at hf
  refine lv_iconst (pc := 0) (v := (0 : Int32)) hx hb dM_lacks_0 (by decide) ?_
  refine lv_istore (pc := 1) (lv' := [(4, .int (0 : Int32)), (0, .ref (ad 0)), (1, .int x1), (2, .int x2), (3, .int x3)]) hx hb dM_lacks_1 hl (by decide) rfl (fun ls hl => ?_)
  refine lv_iload_n (pc := 3) hx hb dM_lacks_3 rfl (lv_at hl 3 rfl) ?_
  refine lv_iconst (pc := 4) (v := (1 : Int32)) hx hb dM_lacks_4 (by decide) ?_
  refine lv_iadd (pc := 5) hx hb dM_lacks_5 ?_
  refine lv_istore (pc := 6) (lv' := [(5, .int (x2 + (1 : Int32))), (4, .int (0 : Int32)), (0, .ref (ad 0)), (1, .int x1), (2, .int x2), (3, .int x3)]) hx hb dM_lacks_6 hl (by decide) rfl (fun ls hl => ?_)
  exact wmM_lacks_L8 hA S hN hr hlk out σ x1 x3 999 (0 : Int32) (x2 + (1 : Int32)) _ (lv_sub hl [2, 3, 5, 1, 0] rfl) hw hf
set_option maxHeartbeats 4000000 in
set_option maxRecDepth 100000 in
theorem kM_lacks (l : Launch) (D : va_G) (ca : Nat → ClassId) (ad : Nat → Nat) (sz : Nat) (σ : JS) (x1 : Int32) (x2 : Int32) (x3 : Int32) (out : Int32) (hf : mM_lacks σ x1 x2 x3 = some out) : Met l yM_lacks wsM_lacks rmM_lacks (jPre D (mT ca) (mC ca ad σ) (mN (va_A (mC ca ad σ) sz)) sz [.ref (ad 0), .int x1, .int x2, .int x3]) (jSi out) 0 0 (fun _ => False) := by
  refine Met.ofW (cc := cM_lacks) (maxL := 6) (ret := some .boolean) (by decide) rfl ?_
  intro p e s m args below meth c s₁ B hml hv
  obtain ⟨rfl, hsz, hP, hK, hD0, hN⟩ := hv
  subst hsz
  have hl := lv_entry [.ref (ad 0), .int x1, .int x2, .int x3] (n := 6) (Nat.le_of_ble_eq_true rfl)
  rw [lg_entry_eq]
  generalize (lg_sl [.ref (ad 0), .int x1, .int x2, .int x3] ++ List.replicate (6 - (lg_sl [.ref (ad 0), .int x1, .int x2, .int x3]).length) Slot.unset).toArray = ls at hl ⊢
  exact bM_lacks (fun q h => Or.inr h) ⟨B.exec, B.bytes, hml, findClass_of_methodNamed B.named, fun w h => atoms_spec (ws := wsM_lacks) B.pre w (List.mem_cons_of_mem _ h)⟩ hN B.returns B.notSynchronized out σ x1 x2 x3 ls hl ⟨hP, hD0.self, va_S.rf, hK⟩ hf

def rmM_apply : Room := { frames := 4, cells := 0, slots := 0, locals := 101 }
def mM_apply_J75 (σ : JS) (x1 : Int32) (x2 : Int32) (y0 : Int32) : Option (Int32 × JS) :=
  if y0 = 0 then
  (jbn (mM_refuse σ (2 : Int32)) fun q5 =>
  some (q5.1, q5.2))
  else
  (jbn (mM_isOn σ x1 (σ 100 2)) fun q7 =>
  if q7 = 0 then
  (jbn (mM_isOn σ x1 x2) fun q11 =>
  if q11 = 0 then
  (jrd σ 2 3 x1 fun v15 =>
  jbn (mM_lacks σ x1 v15 x2) fun q18 =>
  if q18 = 0 then
  (jrd σ 3 3 x1 fun v20 =>
  jbn (mM_become σ x1 x2 v20) fun q23 =>
  some (q23.1, q23.2))
  else
  (jbn (mM_refuse σ (2 : Int32)) fun q25 =>
  some (q25.1, q25.2)))
  else
  (jbn (mM_refuse σ (2 : Int32)) fun q13 =>
  some (q13.1, q13.2)))
  else
  (jbn (mM_refuse σ (2 : Int32)) fun q9 =>
  some (q9.1, q9.2)))
def mM_apply_J74 (σ : JS) (x1 : Int32) (x2 : Int32) : Option (Int32 × JS) :=
  mM_apply_J75 σ x1 x2 (0 : Int32)
def mM_apply_J14 (σ : JS) (x1 : Int32) (x2 : Int32) (y0 : Int32) : Option (Int32 × JS) :=
  jst (jw2 σ 100 0 y0) fun σ3 =>
  if (σ3 100 0) ≤ 0 then
  (if (σ3 100 5) = 0 then
  (jrd σ3 2 3 x1 fun v27 =>
  if v27 < 0 then
  (mM_apply_J74 σ3 x1 x2)
  else
  (jrd σ3 2 3 x1 fun v30 =>
  if x2 ≤ v30 then
  (mM_apply_J74 σ3 x1 x2)
  else
  (jrd σ3 3 3 x1 fun v33 =>
  if v33 ≤ x2 then
  (mM_apply_J74 σ3 x1 x2)
  else
  (if (σ3 100 2) < x2 then
  (mM_apply_J74 σ3 x1 x2)
  else
  (mM_apply_J75 σ3 x1 x2 (1 : Int32))))))
  else
  (mM_apply_J74 σ3 x1 x2))
  else
  (some ((0 : Int32), σ3))
def mM_apply (σ : JS) (x1 : Int32) (x2 : Int32) : Option (Int32 × JS) :=
  jbn (mM_isFile σ x1) fun q1 =>
  if q1 = 0 then
  (mM_apply_J14 σ x1 x2 (1 : Int32))
  else
  (mM_apply_J14 σ x1 x2 (0 : Int32))
set_option maxHeartbeats 4000000 in
set_option maxRecDepth 100000 in
theorem wmM_apply_J75g {p : Program} {l : Launch} {e : Env} {s : State} {m : MethodId} {args : Array Value} {below : List Frame} {meth : Method} {c : Code} {D : va_G} {ca : Nat → ClassId} {ad : Nat → Nat} {A : Nat → Prop} (hA : ∀ q, s.heap.size ≤ q → A q) (S : CallFix p m c cM_apply 4 s args jall RM) (hN : mN A s) (hr : meth.sig.returnType = some .int) (hlk : meth.locks = false) (out : Int32 × JS) (σ : JS) (x1 : Int32) (x2 : Int32) (y0 : Int32) (ls : Array Slot) (H : Heap) (locs : List Loc) (hl : lv_has ls 4 [(0, .ref (ad 0)), (1, .int x1), (2, .int x2)]) (hw : jH D (mT ca) (mC ca ad σ) A s.heap H locs s) (hf : mM_apply_J75 σ x1 x2 y0 = some out) : W p l e (headSpec wsM_apply rmM_apply).room s m args below meth c H locs 0 0 (MQ below (jQi D (mT ca) (mC ca ad) A out.1 out.2) args s 0 0 A) (F0 m 75 ls [.int y0]) := by
  have hx := S.1
  have hb := S.2.1
  unfold mM_apply_J75 at hf
  refine lv_istore_n (pc := 75) (lv' := [(3, .int y0), (0, .ref (ad 0)), (1, .int x1), (2, .int x2)]) hx hb dM_apply_75 rfl hl (by decide) rfl (fun ls hl => ?_)
  refine lv_iload_n (pc := 76) hx hb dM_apply_76 rfl (lv_at hl 0 rfl) ?_
  refine lv_if_eq (pc := 77) (tgt := 116) hx hb dM_apply_77 (by decide) (fun hc => ?_) (fun hc => ?_)
  · replace hf := jit hf hc
    refine lv_aload_n (pc := 116) hx hb dM_apply_116 rfl (lv_at hl 1 rfl) ?_
    refine lv_iconst (pc := 117) (v := (2 : Int32)) hx hb dM_apply_117 (by decide) ?_
    have hg := jbn_e hf; clear hf; obtain ⟨q5, h6, hf⟩ := hg
    refine j_calli (pc := 118) (C := mC ca ad) (σ' := q5.2) (v := q5.1) hw hA (va_runV (As := [.int (2 : Int32)]) (rest := []) S (kM_refuse l D ca ad _ σ (2 : Int32) q5 h6) (cwV 1 S.2.2.2.2 (jgV k_715 k_717 ks_25 k_7 k_718) rfl rfl rfl (by decide +kernel) ⟨Nat.le_of_ble_eq_true rfl, Nat.le_of_ble_eq_true rfl⟩) (j_preV (As := [.int (2 : Int32)]) hw mN_b (mN_to hN hw hA) rfl mg_0) rfl rfl hl.1 rfl (lv_room (Nat.le_of_ble_eq_true rfl)) dM_apply_118 ⟨Nat.le_of_ble_eq_true rfl, Nat.le_of_ble_eq_true rfl⟩) (fun H locs hw => ?_)
    obtain rfl := jsm hf
    exact j_iret (pc := 121) S hw hr hlk dM_apply_121
  · replace hf := jif hf hc
    refine lv_aload_n (pc := 80) hx hb dM_apply_80 rfl (lv_at hl 1 rfl) ?_
    refine lv_iload_n (pc := 81) hx hb dM_apply_81 rfl (lv_at hl 2 rfl) ?_
    refine lv_aload_n (pc := 82) hx hb dM_apply_82 rfl (lv_at hl 1 rfl) ?_
    refine j_get (pc := 83) (v := .int (σ 100 2)) S hw inM 0 6 5 mg_0 rfl (by decide) k_601 rfl dM_apply_83 ?_
    have hg := jbn_e hf; clear hf; obtain ⟨q7, h8, hf⟩ := hg
    refine j_cpi (pc := 86) (v := q7) (va_runV (As := [.int x1, .int (σ 100 2)]) (rest := []) S (kM_isOn l D ca ad _ σ x1 (σ 100 2) q7 h8) (cwV 2 S.2.2.2.2 (jgV k_756 k_758 ks_30 k_7 k_759) rfl rfl rfl (by decide +kernel) ⟨Nat.le_of_ble_eq_true rfl, Nat.le_of_ble_eq_true rfl⟩) (j_preV (As := [.int x1, .int (σ 100 2)]) hw mN_b (mN_to hN hw hA) rfl mg_0) rfl rfl hl.1 rfl (lv_room (Nat.le_of_ble_eq_true rfl)) dM_apply_86 ⟨Nat.le_of_ble_eq_true rfl, Nat.le_of_ble_eq_true rfl⟩) ?_
    refine lv_if_ne (pc := 89) (tgt := 116) hx hb dM_apply_89 (by decide) (fun hc => ?_) (fun hc => ?_)
    · replace hf := jif hf hc
      refine lv_aload_n (pc := 116) hx hb dM_apply_116 rfl (lv_at hl 1 rfl) ?_
      refine lv_iconst (pc := 117) (v := (2 : Int32)) hx hb dM_apply_117 (by decide) ?_
      have hg := jbn_e hf; clear hf; obtain ⟨q9, h10, hf⟩ := hg
      refine j_calli (pc := 118) (C := mC ca ad) (σ' := q9.2) (v := q9.1) hw hA (va_runV (As := [.int (2 : Int32)]) (rest := []) S (kM_refuse l D ca ad _ σ (2 : Int32) q9 h10) (cwV 1 S.2.2.2.2 (jgV k_715 k_717 ks_25 k_7 k_718) rfl rfl rfl (by decide +kernel) ⟨Nat.le_of_ble_eq_true rfl, Nat.le_of_ble_eq_true rfl⟩) (j_preV (As := [.int (2 : Int32)]) hw mN_b (mN_to hN hw hA) rfl mg_0) rfl rfl hl.1 rfl (lv_room (Nat.le_of_ble_eq_true rfl)) dM_apply_118 ⟨Nat.le_of_ble_eq_true rfl, Nat.le_of_ble_eq_true rfl⟩) (fun H locs hw => ?_)
      obtain rfl := jsm hf
      exact j_iret (pc := 121) S hw hr hlk dM_apply_121
    · replace hf := jit hf hc
      refine lv_aload_n (pc := 92) hx hb dM_apply_92 rfl (lv_at hl 1 rfl) ?_
      refine lv_iload_n (pc := 93) hx hb dM_apply_93 rfl (lv_at hl 2 rfl) ?_
      refine lv_iload_n (pc := 94) hx hb dM_apply_94 rfl (lv_at hl 3 rfl) ?_
      have hg := jbn_e hf; clear hf; obtain ⟨q11, h12, hf⟩ := hg
      refine j_cpi (pc := 95) (v := q11) (va_runV (As := [.int x1, .int x2]) (rest := []) S (kM_isOn l D ca ad _ σ x1 x2 q11 h12) (cwV 2 S.2.2.2.2 (jgV k_756 k_758 ks_30 k_7 k_759) rfl rfl rfl (by decide +kernel) ⟨Nat.le_of_ble_eq_true rfl, Nat.le_of_ble_eq_true rfl⟩) (j_preV (As := [.int x1, .int x2]) hw mN_b (mN_to hN hw hA) rfl mg_0) rfl rfl hl.1 rfl (lv_room (Nat.le_of_ble_eq_true rfl)) dM_apply_95 ⟨Nat.le_of_ble_eq_true rfl, Nat.le_of_ble_eq_true rfl⟩) ?_
      refine lv_if_ne (pc := 98) (tgt := 116) hx hb dM_apply_98 (by decide) (fun hc => ?_) (fun hc => ?_)
      · replace hf := jif hf hc
        refine lv_aload_n (pc := 116) hx hb dM_apply_116 rfl (lv_at hl 1 rfl) ?_
        refine lv_iconst (pc := 117) (v := (2 : Int32)) hx hb dM_apply_117 (by decide) ?_
        have hg := jbn_e hf; clear hf; obtain ⟨q13, h14, hf⟩ := hg
        refine j_calli (pc := 118) (C := mC ca ad) (σ' := q13.2) (v := q13.1) hw hA (va_runV (As := [.int (2 : Int32)]) (rest := []) S (kM_refuse l D ca ad _ σ (2 : Int32) q13 h14) (cwV 1 S.2.2.2.2 (jgV k_715 k_717 ks_25 k_7 k_718) rfl rfl rfl (by decide +kernel) ⟨Nat.le_of_ble_eq_true rfl, Nat.le_of_ble_eq_true rfl⟩) (j_preV (As := [.int (2 : Int32)]) hw mN_b (mN_to hN hw hA) rfl mg_0) rfl rfl hl.1 rfl (lv_room (Nat.le_of_ble_eq_true rfl)) dM_apply_118 ⟨Nat.le_of_ble_eq_true rfl, Nat.le_of_ble_eq_true rfl⟩) (fun H locs hw => ?_)
        obtain rfl := jsm hf
        exact j_iret (pc := 121) S hw hr hlk dM_apply_121
      · replace hf := jit hf hc
        refine lv_aload_n (pc := 101) hx hb dM_apply_101 rfl (lv_at hl 1 rfl) ?_
        refine lv_iload_n (pc := 102) hx hb dM_apply_102 rfl (lv_at hl 2 rfl) ?_
        refine lv_aload_n (pc := 103) hx hb dM_apply_103 rfl (lv_at hl 1 rfl) ?_
        refine j_get (pc := 104) (v := .ref (ad 2)) S hw inM 0 6 3 mg_0 rfl (by decide) k_599 rfl dM_apply_104 ?_
        refine lv_iload_n (pc := 107) hx hb dM_apply_107 rfl (lv_at hl 2 rfl) ?_
        have hg := jrd_e hf; clear hf; obtain ⟨h16, v15, e17, hf⟩ := hg
        refine j_iald (pc := 108) S hw 2 1 mg_2 mt_2 h16 e17 dM_apply_108 ?_
        refine lv_iload_n (pc := 109) hx hb dM_apply_109 rfl (lv_at hl 3 rfl) ?_
        have hg := jbn_e hf; clear hf; obtain ⟨q18, h19, hf⟩ := hg
        refine j_cpi (pc := 110) (v := q18) (va_runV (As := [.int x1, .int v15, .int x2]) (rest := []) S (kM_lacks l D ca ad _ σ x1 v15 x2 q18 h19) (cwV 3 S.2.2.2.2 (jgV k_772 k_774 ks_32 k_7 k_775) rfl rfl rfl (by decide +kernel) ⟨Nat.le_of_ble_eq_true rfl, Nat.le_of_ble_eq_true rfl⟩) (j_preV (As := [.int x1, .int v15, .int x2]) hw mN_b (mN_to hN hw hA) rfl mg_0) rfl rfl hl.1 rfl (lv_room (Nat.le_of_ble_eq_true rfl)) dM_apply_110 ⟨Nat.le_of_ble_eq_true rfl, Nat.le_of_ble_eq_true rfl⟩) ?_
        refine lv_if_eq (pc := 113) (tgt := 122) hx hb dM_apply_113 (by decide) (fun hc => ?_) (fun hc => ?_)
        · replace hf := jit hf hc
          refine lv_aload_n (pc := 122) hx hb dM_apply_122 rfl (lv_at hl 1 rfl) ?_
          refine lv_iload_n (pc := 123) hx hb dM_apply_123 rfl (lv_at hl 2 rfl) ?_
          refine lv_iload_n (pc := 124) hx hb dM_apply_124 rfl (lv_at hl 3 rfl) ?_
          refine lv_aload_n (pc := 125) hx hb dM_apply_125 rfl (lv_at hl 1 rfl) ?_
          refine j_get (pc := 126) (v := .ref (ad 3)) S hw inM 0 6 4 mg_0 rfl (by decide) k_600 rfl dM_apply_126 ?_
          refine lv_iload_n (pc := 129) hx hb dM_apply_129 rfl (lv_at hl 2 rfl) ?_
          have hg := jrd_e hf; clear hf; obtain ⟨h21, v20, e22, hf⟩ := hg
          refine j_iald (pc := 130) S hw 3 2 mg_3 mt_3 h21 e22 dM_apply_130 ?_
          have hg := jbn_e hf; clear hf; obtain ⟨q23, h24, hf⟩ := hg
          refine j_calli (pc := 131) (C := mC ca ad) (σ' := q23.2) (v := q23.1) hw hA (va_runV (As := [.int x1, .int x2, .int v20]) (rest := []) S (kM_become l D ca ad _ σ x1 x2 v20 q23 h24) (cwV 3 S.2.2.2.2 (jgV k_764 k_766 ks_31 k_7 k_767) rfl rfl rfl (by decide +kernel) ⟨Nat.le_of_ble_eq_true rfl, Nat.le_of_ble_eq_true rfl⟩) (j_preV (As := [.int x1, .int x2, .int v20]) hw mN_b (mN_to hN hw hA) rfl mg_0) rfl rfl hl.1 rfl (lv_room (Nat.le_of_ble_eq_true rfl)) dM_apply_131 ⟨Nat.le_of_ble_eq_true rfl, Nat.le_of_ble_eq_true rfl⟩) (fun H locs hw => ?_)
          obtain rfl := jsm hf
          exact j_iret (pc := 134) S hw hr hlk dM_apply_134
        · replace hf := jif hf hc
          refine lv_aload_n (pc := 116) hx hb dM_apply_116 rfl (lv_at hl 1 rfl) ?_
          refine lv_iconst (pc := 117) (v := (2 : Int32)) hx hb dM_apply_117 (by decide) ?_
          have hg := jbn_e hf; clear hf; obtain ⟨q25, h26, hf⟩ := hg
          refine j_calli (pc := 118) (C := mC ca ad) (σ' := q25.2) (v := q25.1) hw hA (va_runV (As := [.int (2 : Int32)]) (rest := []) S (kM_refuse l D ca ad _ σ (2 : Int32) q25 h26) (cwV 1 S.2.2.2.2 (jgV k_715 k_717 ks_25 k_7 k_718) rfl rfl rfl (by decide +kernel) ⟨Nat.le_of_ble_eq_true rfl, Nat.le_of_ble_eq_true rfl⟩) (j_preV (As := [.int (2 : Int32)]) hw mN_b (mN_to hN hw hA) rfl mg_0) rfl rfl hl.1 rfl (lv_room (Nat.le_of_ble_eq_true rfl)) dM_apply_118 ⟨Nat.le_of_ble_eq_true rfl, Nat.le_of_ble_eq_true rfl⟩) (fun H locs hw => ?_)
          obtain rfl := jsm hf
          exact j_iret (pc := 121) S hw hr hlk dM_apply_121
set_option maxHeartbeats 4000000 in
set_option maxRecDepth 100000 in
theorem wmM_apply_J74g {p : Program} {l : Launch} {e : Env} {s : State} {m : MethodId} {args : Array Value} {below : List Frame} {meth : Method} {c : Code} {D : va_G} {ca : Nat → ClassId} {ad : Nat → Nat} {A : Nat → Prop} (hA : ∀ q, s.heap.size ≤ q → A q) (S : CallFix p m c cM_apply 4 s args jall RM) (hN : mN A s) (hr : meth.sig.returnType = some .int) (hlk : meth.locks = false) (out : Int32 × JS) (σ : JS) (x1 : Int32) (x2 : Int32) (ls : Array Slot) (H : Heap) (locs : List Loc) (hl : lv_has ls 4 [(0, .ref (ad 0)), (1, .int x1), (2, .int x2)]) (hw : jH D (mT ca) (mC ca ad σ) A s.heap H locs s) (hf : mM_apply_J74 σ x1 x2 = some out) : W p l e (headSpec wsM_apply rmM_apply).room s m args below meth c H locs 0 0 (MQ below (jQi D (mT ca) (mC ca ad) A out.1 out.2) args s 0 0 A) (F0 m 74 ls []) := by
  have hx := S.1
  have hb := S.2.1
  unfold mM_apply_J74 at hf
  refine lv_iconst (pc := 74) (v := (0 : Int32)) hx hb dM_apply_74 (by decide) ?_
  exact wmM_apply_J75g hA S hN hr hlk out σ x1 x2 (0 : Int32) _ _ _ (lv_sub hl [0, 1, 2] rfl) hw hf
set_option maxHeartbeats 4000000 in
set_option maxRecDepth 100000 in
theorem wmM_apply_J14 {p : Program} {l : Launch} {e : Env} {s : State} {m : MethodId} {args : Array Value} {below : List Frame} {meth : Method} {c : Code} {D : va_G} {ca : Nat → ClassId} {ad : Nat → Nat} {A : Nat → Prop} (hA : ∀ q, s.heap.size ≤ q → A q) (S : CallFix p m c cM_apply 4 s args jall RM) (hN : mN A s) (hr : meth.sig.returnType = some .int) (hlk : meth.locks = false) (out : Int32 × JS) (σ : JS) (x1 : Int32) (x2 : Int32) (y0 : Int32) (ls : Array Slot) (hl : lv_has ls 4 [(0, .ref (ad 0)), (1, .int x1), (2, .int x2)]) (hw : jH D (mT ca) (mC ca ad σ) A s.heap s.heap [] s) (hf : mM_apply_J14 σ x1 x2 y0 = some out) : W p l e (headSpec wsM_apply rmM_apply).room s m args below meth c s.heap [] 0 0 (MQ below (jQi D (mT ca) (mC ca ad) A out.1 out.2) args s 0 0 A) (F0 m 14 ls [.int y0, .ref (ad 0)]) := by
  have hx := S.1
  have hb := S.2.1
  unfold mM_apply_J14 at hf
  have hg := jst_e hf; clear hf; obtain ⟨σ3, e4, hf⟩ := hg
  refine j_put (pc := 14) (v := .int y0) (ws' := mC ca ad σ3) S hw inM tyM tyM_ok nmM 0 6 0 mg_0 rfl (by decide) k_596 rfl rfl rfl (Nat.le_of_ble_eq_true rfl) (by rw [e4]; exact mp_0) dM_apply_14 (fun H locs hw => ?_)
  refine lv_aload_n (pc := 17) hx hb dM_apply_17 rfl (lv_at hl 0 rfl) ?_
  refine j_get (pc := 18) (v := .int (σ3 100 0)) S hw inM 0 6 0 mg_0 rfl (by decide) k_596 rfl dM_apply_18 ?_
  refine lv_if_le (pc := 21) (tgt := 26) hx hb dM_apply_21 (by decide) (fun hc => ?_) (fun hc => ?_)
  · replace hf := jit hf hc
    refine lv_aload_n (pc := 26) hx hb dM_apply_26 rfl (lv_at hl 0 rfl) ?_
    refine j_get (pc := 27) (v := .int (σ3 100 5)) S hw inM 0 6 8 mg_0 rfl (by decide) k_604 rfl dM_apply_27 ?_
    refine lv_if_ne (pc := 30) (tgt := 74) hx hb dM_apply_30 (by decide) (fun hc => ?_) (fun hc => ?_)
    · replace hf := jif hf hc
      exact wmM_apply_J74g hA S hN hr hlk out σ3 x1 x2 _ _ _ (lv_sub hl [0, 1, 2] rfl) hw hf
    · replace hf := jit hf hc
      refine lv_aload_n (pc := 33) hx hb dM_apply_33 rfl (lv_at hl 0 rfl) ?_
      refine j_get (pc := 34) (v := .ref (ad 2)) S hw inM 0 6 3 mg_0 rfl (by decide) k_599 rfl dM_apply_34 ?_
      refine lv_iload_n (pc := 37) hx hb dM_apply_37 rfl (lv_at hl 1 rfl) ?_
      have hg := jrd_e hf; clear hf; obtain ⟨h28, v27, e29, hf⟩ := hg
      refine j_iald (pc := 38) S hw 2 1 mg_2 mt_2 h28 e29 dM_apply_38 ?_
      refine lv_if_lt (pc := 39) (tgt := 74) hx hb dM_apply_39 (by decide) (fun hc => ?_) (fun hc => ?_)
      · replace hf := jit hf hc
        exact wmM_apply_J74g hA S hN hr hlk out σ3 x1 x2 _ _ _ (lv_sub hl [0, 1, 2] rfl) hw hf
      · replace hf := jif hf hc
        refine lv_iload_n (pc := 42) hx hb dM_apply_42 rfl (lv_at hl 2 rfl) ?_
        refine lv_aload_n (pc := 43) hx hb dM_apply_43 rfl (lv_at hl 0 rfl) ?_
        refine j_get (pc := 44) (v := .ref (ad 2)) S hw inM 0 6 3 mg_0 rfl (by decide) k_599 rfl dM_apply_44 ?_
        refine lv_iload_n (pc := 47) hx hb dM_apply_47 rfl (lv_at hl 1 rfl) ?_
        have hg := jrd_e hf; clear hf; obtain ⟨h31, v30, e32, hf⟩ := hg
        refine j_iald (pc := 48) S hw 2 1 mg_2 mt_2 h31 e32 dM_apply_48 ?_
        refine lv_icmp_le (pc := 49) (tgt := 74) hx hb dM_apply_49 (by decide) (fun hc => ?_) (fun hc => ?_)
        · replace hf := jit hf hc
          exact wmM_apply_J74g hA S hN hr hlk out σ3 x1 x2 _ _ _ (lv_sub hl [0, 1, 2] rfl) hw hf
        · replace hf := jif hf hc
          refine lv_iload_n (pc := 52) hx hb dM_apply_52 rfl (lv_at hl 2 rfl) ?_
          refine lv_aload_n (pc := 53) hx hb dM_apply_53 rfl (lv_at hl 0 rfl) ?_
          refine j_get (pc := 54) (v := .ref (ad 3)) S hw inM 0 6 4 mg_0 rfl (by decide) k_600 rfl dM_apply_54 ?_
          refine lv_iload_n (pc := 57) hx hb dM_apply_57 rfl (lv_at hl 1 rfl) ?_
          have hg := jrd_e hf; clear hf; obtain ⟨h34, v33, e35, hf⟩ := hg
          refine j_iald (pc := 58) S hw 3 2 mg_3 mt_3 h34 e35 dM_apply_58 ?_
          refine lv_icmp_ge (pc := 59) (tgt := 74) hx hb dM_apply_59 (by decide) (fun hc => ?_) (fun hc => ?_)
          · replace hf := jit hf hc
            exact wmM_apply_J74g hA S hN hr hlk out σ3 x1 x2 _ _ _ (lv_sub hl [0, 1, 2] rfl) hw hf
          · replace hf := jif hf hc
            refine lv_iload_n (pc := 62) hx hb dM_apply_62 rfl (lv_at hl 2 rfl) ?_
            refine lv_aload_n (pc := 63) hx hb dM_apply_63 rfl (lv_at hl 0 rfl) ?_
            refine j_get (pc := 64) (v := .int (σ3 100 2)) S hw inM 0 6 5 mg_0 rfl (by decide) k_601 rfl dM_apply_64 ?_
            refine lv_icmp_gt (pc := 67) (tgt := 74) hx hb dM_apply_67 (by decide) (fun hc => ?_) (fun hc => ?_)
            · replace hf := jit hf hc
              exact wmM_apply_J74g hA S hN hr hlk out σ3 x1 x2 _ _ _ (lv_sub hl [0, 1, 2] rfl) hw hf
            · replace hf := jif hf hc
              refine lv_iconst (pc := 70) (v := (1 : Int32)) hx hb dM_apply_70 (by decide) ?_
              refine lv_goto (pc := 71) (tgt := 75) hx hb dM_apply_71 (by decide) ?_
              exact wmM_apply_J75g hA S hN hr hlk out σ3 x1 x2 (1 : Int32) _ _ _ (lv_sub hl [0, 1, 2] rfl) hw hf
  · replace hf := jif hf hc
    refine lv_iconst (pc := 24) (v := (0 : Int32)) hx hb dM_apply_24 (by decide) ?_
    obtain rfl := jsm hf
    exact j_iret (pc := 25) S hw hr hlk dM_apply_25
set_option maxHeartbeats 4000000 in
set_option maxRecDepth 100000 in
theorem bM_apply {p : Program} {l : Launch} {e : Env} {s : State} {m : MethodId} {args : Array Value} {below : List Frame} {meth : Method} {c : Code} {D : va_G} {ca : Nat → ClassId} {ad : Nat → Nat} {A : Nat → Prop} (hA : ∀ q, s.heap.size ≤ q → A q) (S : CallFix p m c cM_apply 4 s args jall RM) (hN : mN A s) (hr : meth.sig.returnType = some .int) (hlk : meth.locks = false) (out : Int32 × JS) (σ : JS) (x1 : Int32) (x2 : Int32) (ls : Array Slot) (hl : lv_has ls 4 [(0, .ref (ad 0)), (1, .int x1), (2, .int x2)]) (hw : jH D (mT ca) (mC ca ad σ) A s.heap s.heap [] s) (hf : mM_apply σ x1 x2 = some out) : W p l e (headSpec wsM_apply rmM_apply).room s m args below meth c s.heap [] 0 0 (MQ below (jQi D (mT ca) (mC ca ad) A out.1 out.2) args s 0 0 A) (F0 m 0 ls []) := by
  have hx := S.1
  have hb := S.2.1
  unfold mM_apply at hf
  refine lv_aload_n (pc := 0) hx hb dM_apply_0 rfl (lv_at hl 0 rfl) ?_
  refine lv_aload_n (pc := 1) hx hb dM_apply_1 rfl (lv_at hl 0 rfl) ?_
  refine lv_iload_n (pc := 2) hx hb dM_apply_2 rfl (lv_at hl 1 rfl) ?_
  have hg := jbn_e hf; clear hf; obtain ⟨q1, h2, hf⟩ := hg
  refine j_cpi (pc := 3) (v := q1) (va_runV (As := [.int x1]) (rest := [.ref (ad 0)]) S (kM_isFile l D ca ad _ σ x1 q1 h2) (cwV 1 S.2.2.2.2 (jgV k_691 k_693 ks_17 k_7 k_694) rfl rfl rfl (by decide +kernel) ⟨Nat.le_of_ble_eq_true rfl, Nat.le_of_ble_eq_true rfl⟩) (j_preV (As := [.int x1]) hw mN_b (mN_to hN hw hA) rfl mg_0) rfl rfl hl.1 rfl (lv_room (Nat.le_of_ble_eq_true rfl)) dM_apply_3 ⟨Nat.le_of_ble_eq_true rfl, Nat.le_of_ble_eq_true rfl⟩) ?_
  refine lv_if_eq (pc := 6) (tgt := 13) hx hb dM_apply_6 (by decide) (fun hc => ?_) (fun hc => ?_)
  · replace hf := jit hf hc
    refine lv_iconst (pc := 13) (v := (1 : Int32)) hx hb dM_apply_13 (by decide) ?_
    exact wmM_apply_J14 hA S hN hr hlk out σ x1 x2 (1 : Int32) _ (lv_sub hl [0, 1, 2] rfl) hw hf
  · replace hf := jif hf hc
    refine lv_iconst (pc := 9) (v := (0 : Int32)) hx hb dM_apply_9 (by decide) ?_
    refine lv_goto (pc := 10) (tgt := 14) hx hb dM_apply_10 (by decide) ?_
    exact wmM_apply_J14 hA S hN hr hlk out σ x1 x2 (0 : Int32) _ (lv_sub hl [0, 1, 2] rfl) hw hf
set_option maxHeartbeats 4000000 in
set_option maxRecDepth 100000 in
theorem kM_apply (l : Launch) (D : va_G) (ca : Nat → ClassId) (ad : Nat → Nat) (sz : Nat) (σ : JS) (x1 : Int32) (x2 : Int32) (out : Int32 × JS) (hf : mM_apply σ x1 x2 = some out) : Met l yM_apply wsM_apply rmM_apply (jPre D (mT ca) (mC ca ad σ) (mN (va_A (mC ca ad σ) sz)) sz [.ref (ad 0), .int x1, .int x2]) (jQi D (mT ca) (mC ca ad) (va_A (mC ca ad σ) sz) out.1 out.2) 0 0 (va_A (mC ca ad σ) sz) := by
  refine Met.ofW (cc := cM_apply) (maxL := 4) (ret := some .int) (by decide) rfl ?_
  intro p e s m args below meth c s₁ B hml hv
  obtain ⟨rfl, hsz, hP, hK, hD0, hN⟩ := hv
  subst hsz
  have hl := lv_entry [.ref (ad 0), .int x1, .int x2] (n := 4) (Nat.le_of_ble_eq_true rfl)
  rw [lg_entry_eq]
  generalize (lg_sl [.ref (ad 0), .int x1, .int x2] ++ List.replicate (4 - (lg_sl [.ref (ad 0), .int x1, .int x2]).length) Slot.unset).toArray = ls at hl ⊢
  exact bM_apply (fun q h => Or.inr h) ⟨B.exec, B.bytes, hml, findClass_of_methodNamed B.named, fun w h => atoms_spec (ws := wsM_apply) B.pre w (List.mem_cons_of_mem _ h)⟩ hN B.returns B.notSynchronized out σ x1 x2 ls hl ⟨hP, hD0.self, va_S.rf, hK⟩ hf

