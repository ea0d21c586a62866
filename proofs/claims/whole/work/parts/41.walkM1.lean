def rmM_note : Room := { frames := 1, cells := 0, slots := 0, locals := 24 }
def mM_note_J20 (σ : JS) (x1 : Int32) (x2 : Int32) (x3 : Int32) (x4 : Int32) (x5 : Int32) (y0 : Int32) : Option (JS) :=
  jst (jw2 σ 100 2 ((σ 100 2) + (1 : Int32))) fun σ1 =>
  jwr σ1 4 121 (σ1 100 2) x1 fun σ3 =>
  jwr σ3 5 121 (σ3 100 2) x2 fun σ6 =>
  jwr σ6 6 121 (σ6 100 2) x3 fun σ9 =>
  jwr σ9 7 121 (σ9 100 2) x4 fun σ12 =>
  jwr σ12 8 121 (σ12 100 2) y0 fun σ15 =>
  jwr σ15 9 121 (σ15 100 2) x5 fun σ18 =>
  some σ18
def mM_note (σ : JS) (x1 : Int32) (x2 : Int32) (x3 : Int32) (x4 : Int32) (x5 : Int32) : Option (JS) :=
  if x1 = (1 : Int32) then
  (jbn (mM_valueAt σ x3 x4 (σ 100 2)) fun q21 =>
  mM_note_J20 σ x1 x2 x3 x4 x5 q21)
  else
  (mM_note_J20 σ x1 x2 x3 x4 x5 (0 : Int32))
set_option maxHeartbeats 4000000 in
set_option maxRecDepth 100000 in
theorem wmM_note_J20 {p : Program} {l : Launch} {e : Env} {s : State} {m : MethodId} {args : Array Value} {below : List Frame} {meth : Method} {c : Code} {D : va_G} {ca : Nat → ClassId} {ad : Nat → Nat} {A : Nat → Prop} (hA : ∀ q, s.heap.size ≤ q → A q) (S : CallFix p m c cM_note 7 s args jall RM) (hN : mN A s) (hr : meth.sig.returnType = none) (hlk : meth.locks = false) (out : JS) (σ : JS) (x1 : Int32) (x2 : Int32) (x3 : Int32) (x4 : Int32) (x5 : Int32) (y0 : Int32) (ls : Array Slot) (hl : lv_has ls 7 [(0, .ref (ad 0)), (1, .int x1), (2, .int x2), (3, .int x3), (4, .int x4), (5, .int x5)]) (hw : jH D (mT ca) (mC ca ad σ) A s.heap s.heap [] s) (hf : mM_note_J20 σ x1 x2 x3 x4 x5 y0 = some out) : W p l e (headSpec wsM_note rmM_note).room s m args below meth c s.heap [] 0 0 (MQ below (jQv D (mT ca) (mC ca ad) A out) args s 0 0 A) (F0 m 20 ls [.int y0]) := by
  have hx := S.1
  have hb := S.2.1
  unfold mM_note_J20 at hf
  refine lv_istore (pc := 20) (lv' := [(6, .int y0), (0, .ref (ad 0)), (1, .int x1), (2, .int x2), (3, .int x3), (4, .int x4), (5, .int x5)]) hx hb dM_note_20 hl (by decide) rfl (fun ls hl => ?_)
  refine lv_aload_n (pc := 22) hx hb dM_note_22 rfl (lv_at hl 1 rfl) ?_
  refine lv_dup (pc := 23) hx hb dM_note_23 rfl ?_
  refine j_get (pc := 24) (v := .int (σ 100 2)) S hw inM 0 6 5 mg_0 rfl (by decide) k_601 rfl dM_note_24 ?_
  refine lv_iconst (pc := 27) (v := (1 : Int32)) hx hb dM_note_27 (by decide) ?_
  refine lv_iadd (pc := 28) hx hb dM_note_28 ?_
  have hg := jst_e hf; clear hf; obtain ⟨σ1, e2, hf⟩ := hg
  refine j_put (pc := 29) (v := .int ((σ 100 2) + (1 : Int32))) (ws' := mC ca ad σ1) S hw inM tyM tyM_ok nmM 0 6 5 mg_0 rfl (by decide) k_601 rfl rfl rfl (Nat.le_of_ble_eq_true rfl) (by rw [e2]; exact mp_2) dM_note_29 (fun H locs hw => ?_)
  refine lv_aload_n (pc := 32) hx hb dM_note_32 rfl (lv_at hl 1 rfl) ?_
  refine j_get (pc := 33) (v := .ref (ad 4)) S hw inM 0 6 9 mg_0 rfl (by decide) k_605 rfl dM_note_33 ?_
  refine lv_aload_n (pc := 36) hx hb dM_note_36 rfl (lv_at hl 1 rfl) ?_
  refine j_get (pc := 37) (v := .int (σ1 100 2)) S hw inM 0 6 5 mg_0 rfl (by decide) k_601 rfl dM_note_37 ?_
  refine lv_iload_n (pc := 40) hx hb dM_note_40 rfl (lv_at hl 2 rfl) ?_
  have hg := jwr_e hf; clear hf; obtain ⟨h4, σ3, e5, hf⟩ := hg
  refine j_iast (pc := 41) (ws' := mC ca ad σ3) S hw 4 3 mg_4 mt_4 h4 (by rw [e5]; exact ms_4) dM_note_41 (fun H locs hw => ?_)
  refine lv_aload_n (pc := 42) hx hb dM_note_42 rfl (lv_at hl 1 rfl) ?_
  refine j_get (pc := 43) (v := .ref (ad 5)) S hw inM 0 6 10 mg_0 rfl (by decide) k_606 rfl dM_note_43 ?_
  refine lv_aload_n (pc := 46) hx hb dM_note_46 rfl (lv_at hl 1 rfl) ?_
  refine j_get (pc := 47) (v := .int (σ3 100 2)) S hw inM 0 6 5 mg_0 rfl (by decide) k_601 rfl dM_note_47 ?_
  refine lv_iload_n (pc := 50) hx hb dM_note_50 rfl (lv_at hl 3 rfl) ?_
  have hg := jwr_e hf; clear hf; obtain ⟨h7, σ6, e8, hf⟩ := hg
  refine j_iast (pc := 51) (ws' := mC ca ad σ6) S hw 5 4 mg_5 mt_5 h7 (by rw [e8]; exact ms_5) dM_note_51 (fun H locs hw => ?_)
  refine lv_aload_n (pc := 52) hx hb dM_note_52 rfl (lv_at hl 1 rfl) ?_
  refine j_get (pc := 53) (v := .ref (ad 6)) S hw inM 0 6 11 mg_0 rfl (by decide) k_607 rfl dM_note_53 ?_
  refine lv_aload_n (pc := 56) hx hb dM_note_56 rfl (lv_at hl 1 rfl) ?_
  refine j_get (pc := 57) (v := .int (σ6 100 2)) S hw inM 0 6 5 mg_0 rfl (by decide) k_601 rfl dM_note_57 ?_
  refine lv_iload_n (pc := 60) hx hb dM_note_60 rfl (lv_at hl 4 rfl) ?_
  have hg := jwr_e hf; clear hf; obtain ⟨h10, σ9, e11, hf⟩ := hg
  refine j_iast (pc := 61) (ws' := mC ca ad σ9) S hw 6 5 mg_6 mt_6 h10 (by rw [e11]; exact ms_6) dM_note_61 (fun H locs hw => ?_)
  refine lv_aload_n (pc := 62) hx hb dM_note_62 rfl (lv_at hl 1 rfl) ?_
  refine j_get (pc := 63) (v := .ref (ad 7)) S hw inM 0 6 12 mg_0 rfl (by decide) k_608 rfl dM_note_63 ?_
  refine lv_aload_n (pc := 66) hx hb dM_note_66 rfl (lv_at hl 1 rfl) ?_
  refine j_get (pc := 67) (v := .int (σ9 100 2)) S hw inM 0 6 5 mg_0 rfl (by decide) k_601 rfl dM_note_67 ?_
  refine lv_iload (pc := 70) hx hb dM_note_70 (lv_at hl 5 rfl) ?_
  have hg := jwr_e hf; clear hf; obtain ⟨h13, σ12, e14, hf⟩ := hg
  refine j_iast (pc := 72) (ws' := mC ca ad σ12) S hw 7 6 mg_7 mt_7 h13 (by rw [e14]; exact ms_7) dM_note_72 (fun H locs hw => ?_)
  refine lv_aload_n (pc := 73) hx hb dM_note_73 rfl (lv_at hl 1 rfl) ?_
  refine j_get (pc := 74) (v := .ref (ad 8)) S hw inM 0 6 13 mg_0 rfl (by decide) k_609 rfl dM_note_74 ?_
  refine lv_aload_n (pc := 77) hx hb dM_note_77 rfl (lv_at hl 1 rfl) ?_
  refine j_get (pc := 78) (v := .int (σ12 100 2)) S hw inM 0 6 5 mg_0 rfl (by decide) k_601 rfl dM_note_78 ?_
  refine lv_iload (pc := 81) hx hb dM_note_81 (lv_at hl 0 rfl) ?_
  have hg := jwr_e hf; clear hf; obtain ⟨h16, σ15, e17, hf⟩ := hg
  refine j_iast (pc := 83) (ws' := mC ca ad σ15) S hw 8 7 mg_8 mt_8 h16 (by rw [e17]; exact ms_8) dM_note_83 (fun H locs hw => ?_)
  refine lv_aload_n (pc := 84) hx hb dM_note_84 rfl (lv_at hl 1 rfl) ?_
  refine j_get (pc := 85) (v := .ref (ad 9)) S hw inM 0 6 14 mg_0 rfl (by decide) k_610 rfl dM_note_85 ?_
  refine lv_aload_n (pc := 88) hx hb dM_note_88 rfl (lv_at hl 1 rfl) ?_
  refine j_get (pc := 89) (v := .int (σ15 100 2)) S hw inM 0 6 5 mg_0 rfl (by decide) k_601 rfl dM_note_89 ?_
  refine lv_iload (pc := 92) hx hb dM_note_92 (lv_at hl 6 rfl) ?_
  have hg := jwr_e hf; clear hf; obtain ⟨h19, σ18, e20, hf⟩ := hg
  refine j_iast (pc := 94) (ws' := mC ca ad σ18) S hw 9 8 mg_9 mt_9 h19 (by rw [e20]; exact ms_9) dM_note_94 (fun H locs hw => ?_)
  obtain rfl := jsm hf
  exact j_vret (pc := 95) S hw hr hlk dM_note_95
set_option maxHeartbeats 4000000 in
set_option maxRecDepth 100000 in
theorem bM_note {p : Program} {l : Launch} {e : Env} {s : State} {m : MethodId} {args : Array Value} {below : List Frame} {meth : Method} {c : Code} {D : va_G} {ca : Nat → ClassId} {ad : Nat → Nat} {A : Nat → Prop} (hA : ∀ q, s.heap.size ≤ q → A q) (S : CallFix p m c cM_note 7 s args jall RM) (hN : mN A s) (hr : meth.sig.returnType = none) (hlk : meth.locks = false) (out : JS) (σ : JS) (x1 : Int32) (x2 : Int32) (x3 : Int32) (x4 : Int32) (x5 : Int32) (ls : Array Slot) (hl : lv_has ls 7 [(0, .ref (ad 0)), (1, .int x1), (2, .int x2), (3, .int x3), (4, .int x4), (5, .int x5)]) (hw : jH D (mT ca) (mC ca ad σ) A s.heap s.heap [] s) (hf : mM_note σ x1 x2 x3 x4 x5 = some out) : W p l e (headSpec wsM_note rmM_note).room s m args below meth c s.heap [] 0 0 (MQ below (jQv D (mT ca) (mC ca ad) A out) args s 0 0 A) (F0 m 0 ls []) := by
  have hx := S.1
  have hb := S.2.1
  unfold mM_note at hf
  refine lv_iload_n (pc := 0) hx hb dM_note_0 rfl (lv_at hl 1 rfl) ?_
  refine lv_iconst (pc := 1) (v := (1 : Int32)) hx hb dM_note_1 (by decide) ?_
  refine lv_icmp_ne (pc := 2) (tgt := 19) hx hb dM_note_2 (by decide) (fun hc => ?_) (fun hc => ?_)
  · replace hf := jif hf hc
    refine lv_iconst (pc := 19) (v := (0 : Int32)) hx hb dM_note_19 (by decide) ?_
    exact wmM_note_J20 hA S hN hr hlk out σ x1 x2 x3 x4 x5 (0 : Int32) _ (lv_sub hl [0, 1, 2, 3, 4, 5] rfl) hw hf
  · replace hf := jit hf hc
    refine lv_aload_n (pc := 5) hx hb dM_note_5 rfl (lv_at hl 0 rfl) ?_
    refine lv_iload_n (pc := 6) hx hb dM_note_6 rfl (lv_at hl 3 rfl) ?_
    refine lv_iload (pc := 7) hx hb dM_note_7 (lv_at hl 4 rfl) ?_
    refine lv_aload_n (pc := 9) hx hb dM_note_9 rfl (lv_at hl 0 rfl) ?_
    refine j_get (pc := 10) (v := .int (σ 100 2)) S hw inM 0 6 5 mg_0 rfl (by decide) k_601 rfl dM_note_10 ?_
    have hg := jbn_e hf; clear hf; obtain ⟨q21, h22, hf⟩ := hg
    refine j_cpi (pc := 13) (v := q21) (va_runV (As := [.int x3, .int x4, .int (σ 100 2)]) (rest := []) S (kM_valueAt l D ca ad _ σ x3 x4 (σ 100 2) q21 h22) (cwV 3 S.2.2.2.2 (jgV k_727 k_729 ks_20 k_7 k_730) rfl rfl rfl (by decide +kernel) ⟨Nat.le_of_ble_eq_true rfl, Nat.le_of_ble_eq_true rfl⟩) (j_preV (As := [.int x3, .int x4, .int (σ 100 2)]) hw mN_b (mN_to hN hw hA) rfl mg_0) rfl rfl hl.1 rfl (lv_room (Nat.le_of_ble_eq_true rfl)) dM_note_13 ⟨Nat.le_of_ble_eq_true rfl, Nat.le_of_ble_eq_true rfl⟩) ?_
    refine lv_goto (pc := 16) (tgt := 20) hx hb dM_note_16 (by decide) ?_
    exact wmM_note_J20 hA S hN hr hlk out σ x1 x2 x3 x4 x5 q21 _ (lv_sub hl [0, 1, 2, 3, 4, 5] rfl) hw hf
set_option maxHeartbeats 4000000 in
set_option maxRecDepth 100000 in
theorem kM_note (l : Launch) (D : va_G) (ca : Nat → ClassId) (ad : Nat → Nat) (sz : Nat) (σ : JS) (x1 : Int32) (x2 : Int32) (x3 : Int32) (x4 : Int32) (x5 : Int32) (out : JS) (hf : mM_note σ x1 x2 x3 x4 x5 = some out) : Met l yM_note wsM_note rmM_note (jPre D (mT ca) (mC ca ad σ) (mN (va_A (mC ca ad σ) sz)) sz [.ref (ad 0), .int x1, .int x2, .int x3, .int x4, .int x5]) (jQv D (mT ca) (mC ca ad) (va_A (mC ca ad σ) sz) out) 0 0 (va_A (mC ca ad σ) sz) := by
  refine Met.ofW (cc := cM_note) (maxL := 7) (ret := none) (by decide) rfl ?_
  intro p e s m args below meth c s₁ B hml hv
  obtain ⟨rfl, hsz, hP, hK, hD0, hN⟩ := hv
  subst hsz
  have hl := lv_entry [.ref (ad 0), .int x1, .int x2, .int x3, .int x4, .int x5] (n := 7) (Nat.le_of_ble_eq_true rfl)
  rw [lg_entry_eq]
  generalize (lg_sl [.ref (ad 0), .int x1, .int x2, .int x3, .int x4, .int x5] ++ List.replicate (7 - (lg_sl [.ref (ad 0), .int x1, .int x2, .int x3, .int x4, .int x5]).length) Slot.unset).toArray = ls at hl ⊢
  exact bM_note (fun q h => Or.inr h) ⟨B.exec, B.bytes, hml, findClass_of_methodNamed B.named, fun w h => atoms_spec (ws := wsM_note) B.pre w (List.mem_cons_of_mem _ h)⟩ hN B.returns B.notSynchronized out σ x1 x2 x3 x4 x5 ls hl ⟨hP, hD0.self, va_S.rf, hK⟩ hf

def rmM_landFirst : Room := { frames := 0, cells := 0, slots := 0, locals := 0 }
def mM_landFirst_L46  : Nat → JS → Int32 → Option (JS)
  | 0, _, _ => none
  | n + 1, σ, x2 =>
    if (σ 100 6) ≤ x2 then
    (some σ)
    else
    (jrd σ 11 24 (x2 + (1 : Int32)) fun v18 =>
    jwr σ 11 24 x2 v18 fun σ21 =>
    mM_landFirst_L46  n σ21 (x2 + 1))
def mM_landFirst (σ : JS)  : Option (JS) :=
  jrd σ 11 24 (0 : Int32) fun v1 =>
  jrd σ 6 121 v1 fun v4 =>
  jrd σ 7 121 v1 fun v7 =>
  jrd σ 9 121 v1 fun v10 =>
  jwr σ 10 24 (((8 : Int32) * v4) + v7) v10 fun σ13 =>
  jst (jw2 σ13 100 6 ((σ13 100 6) - (1 : Int32))) fun σ16 =>
  mM_landFirst_L46  999 σ16 (0 : Int32)
set_option maxHeartbeats 4000000 in
set_option maxRecDepth 100000 in
theorem wmM_landFirst_L46g {p : Program} {l : Launch} {e : Env} {s : State} {m : MethodId} {args : Array Value} {below : List Frame} {meth : Method} {c : Code} {D : va_G} {ca : Nat → ClassId} {ad : Nat → Nat} {A : Nat → Prop} (hA : ∀ q, s.heap.size ≤ q → A q) (S : CallFix p m c cM_landFirst 3 s args jall RM) (hN : mN A s) (hr : meth.sig.returnType = none) (hlk : meth.locks = false) (out : JS)  : ∀ (n : Nat) (σ : JS) (x2 : Int32) (ls : Array Slot) (H : Heap) (locs : List Loc), lv_has ls 3 [(0, .ref (ad 0)), (2, .int x2)] → jH D (mT ca) (mC ca ad σ) A s.heap H locs s → mM_landFirst_L46  n σ x2 = some out → W p l e (headSpec wsM_landFirst rmM_landFirst).room s m args below meth c H locs 0 0 (MQ below (jQv D (mT ca) (mC ca ad) A out) args s 0 0 A) (F0 m 46 ls []) := by
  have hx := S.1
  have hb := S.2.1
  intro n
  induction n with
  | zero => intro σ x2 ls H locs hl hw hf; cases hf
  | succ n ih =>
    intro σ x2 ls H locs hl hw hf
    rw [mM_landFirst_L46] at hf
    refine lv_iload_n (pc := 46) hx hb dM_landFirst_46 rfl (lv_at hl 1 rfl) ?_
    refine lv_aload_n (pc := 47) hx hb dM_landFirst_47 rfl (lv_at hl 0 rfl) ?_
    refine j_get (pc := 48) (v := .int (σ 100 6)) S hw inM 0 6 16 mg_0 rfl (by decide) k_612 rfl dM_landFirst_48 ?_
    refine lv_icmp_ge (pc := 51) (tgt := 74) hx hb dM_landFirst_51 (by decide) (fun hc => ?_) (fun hc => ?_)
    · replace hf := jit hf hc
      obtain rfl := jsm hf
      exact j_vret (pc := 74) S hw hr hlk dM_landFirst_74
    · replace hf := jif hf hc
      refine lv_aload_n (pc := 54) hx hb dM_landFirst_54 rfl (lv_at hl 0 rfl) ?_
      refine j_get (pc := 55) (v := .ref (ad 11)) S hw inM 0 6 17 mg_0 rfl (by decide) k_613 rfl dM_landFirst_55 ?_
      refine lv_iload_n (pc := 58) hx hb dM_landFirst_58 rfl (lv_at hl 1 rfl) ?_
      refine lv_aload_n (pc := 59) hx hb dM_landFirst_59 rfl (lv_at hl 0 rfl) ?_
      refine j_get (pc := 60) (v := .ref (ad 11)) S hw inM 0 6 17 mg_0 rfl (by decide) k_613 rfl dM_landFirst_60 ?_
      refine lv_iload_n (pc := 63) hx hb dM_landFirst_63 rfl (lv_at hl 1 rfl) ?_
      refine lv_iconst (pc := 64) (v := (1 : Int32)) hx hb dM_landFirst_64 (by decide) ?_
      refine lv_iadd (pc := 65) hx hb dM_landFirst_65 ?_
      have hg := jrd_e hf; clear hf; obtain ⟨h19, v18, e20, hf⟩ := hg
      refine j_iald (pc := 66) S hw 11 10 mg_11 mt_11 h19 e20 dM_landFirst_66 ?_
      have hg := jwr_e hf; clear hf; obtain ⟨h22, σ21, e23, hf⟩ := hg
      refine j_iast (pc := 67) (ws' := mC ca ad σ21) S hw 11 10 mg_11 mt_11 h22 (by rw [e23]; exact ms_11) dM_landFirst_67 (fun H locs hw => ?_)
      refine lv_iinc (pc := 68) (v := (x2 + 1)) (k := 1) (lv' := [(2, .int (x2 + 1)), (0, .ref (ad 0))]) hx hb dM_landFirst_68 hl rfl (j_inc _ (by decide)) (by decide) rfl (fun ls hl => ?_)
      refine lv_goto (pc := 71) (tgt := 46) hx hb dM_landFirst_71 (by decide) ?_
      exact ih σ21 (x2 + 1) _ _ _ (lv_sub hl [1, 0] rfl) hw hf
set_option maxHeartbeats 4000000 in
set_option maxRecDepth 100000 in
theorem bM_landFirst {p : Program} {l : Launch} {e : Env} {s : State} {m : MethodId} {args : Array Value} {below : List Frame} {meth : Method} {c : Code} {D : va_G} {ca : Nat → ClassId} {ad : Nat → Nat} {A : Nat → Prop} (hA : ∀ q, s.heap.size ≤ q → A q) (S : CallFix p m c cM_landFirst 3 s args jall RM) (hN : mN A s) (hr : meth.sig.returnType = none) (hlk : meth.locks = false) (out : JS) (σ : JS)  (ls : Array Slot) (hl : lv_has ls 3 [(0, .ref (ad 0))]) (hw : jH D (mT ca) (mC ca ad σ) A s.heap s.heap [] s) (hf : mM_landFirst σ  = some out) : W p l e (headSpec wsM_landFirst rmM_landFirst).room s m args below meth c s.heap [] 0 0 (MQ below (jQv D (mT ca) (mC ca ad) A out) args s 0 0 A) (F0 m 0 ls []) := by
  have hx := S.1
  have hb := S.2.1
  unfold mM_landFirst at hf
  refine lv_aload_n (pc := 0) hx hb dM_landFirst_0 rfl (lv_at hl 0 rfl) ?_
  refine j_get (pc := 1) (v := .ref (ad 11)) S hw inM 0 6 17 mg_0 rfl (by decide) k_613 rfl dM_landFirst_1 ?_
  refine lv_iconst (pc := 4) (v := (0 : Int32)) hx hb dM_landFirst_4 (by decide) ?_
  have hg := jrd_e hf; clear hf; obtain ⟨h2, v1, e3, hf⟩ := hg
  refine j_iald (pc := 5) S hw 11 10 mg_11 mt_11 h2 e3 dM_landFirst_5 ?_
  refine lv_istore_n (pc := 6) (lv' := [(1, .int v1), (0, .ref (ad 0))]) hx hb dM_landFirst_6 rfl hl (by decide) rfl (fun ls hl => ?_)
  refine lv_aload_n (pc := 7) hx hb dM_landFirst_7 rfl (lv_at hl 1 rfl) ?_
  refine j_get (pc := 8) (v := .ref (ad 10)) S hw inM 0 6 15 mg_0 rfl (by decide) k_611 rfl dM_landFirst_8 ?_
  refine lv_bipush (pc := 11) (v := (8 : Int32)) hx hb dM_landFirst_11 (by decide) ?_
  refine lv_aload_n (pc := 13) hx hb dM_landFirst_13 rfl (lv_at hl 1 rfl) ?_
  refine j_get (pc := 14) (v := .ref (ad 6)) S hw inM 0 6 11 mg_0 rfl (by decide) k_607 rfl dM_landFirst_14 ?_
  refine lv_iload_n (pc := 17) hx hb dM_landFirst_17 rfl (lv_at hl 0 rfl) ?_
  have hg := jrd_e hf; clear hf; obtain ⟨h5, v4, e6, hf⟩ := hg
  refine j_iald (pc := 18) S hw 6 5 mg_6 mt_6 h5 e6 dM_landFirst_18 ?_
  refine lv_imul (pc := 19) hx hb dM_landFirst_19 ?_
  refine lv_aload_n (pc := 20) hx hb dM_landFirst_20 rfl (lv_at hl 1 rfl) ?_
  refine j_get (pc := 21) (v := .ref (ad 7)) S hw inM 0 6 12 mg_0 rfl (by decide) k_608 rfl dM_landFirst_21 ?_
  refine lv_iload_n (pc := 24) hx hb dM_landFirst_24 rfl (lv_at hl 0 rfl) ?_
  have hg := jrd_e hf; clear hf; obtain ⟨h8, v7, e9, hf⟩ := hg
  refine j_iald (pc := 25) S hw 7 6 mg_7 mt_7 h8 e9 dM_landFirst_25 ?_
  refine lv_iadd (pc := 26) hx hb dM_landFirst_26 ?_
  refine lv_aload_n (pc := 27) hx hb dM_landFirst_27 rfl (lv_at hl 1 rfl) ?_
  refine j_get (pc := 28) (v := .ref (ad 9)) S hw inM 0 6 14 mg_0 rfl (by decide) k_610 rfl dM_landFirst_28 ?_
  refine lv_iload_n (pc := 31) hx hb dM_landFirst_31 rfl (lv_at hl 0 rfl) ?_
  have hg := jrd_e hf; clear hf; obtain ⟨h11, v10, e12, hf⟩ := hg
  refine j_iald (pc := 32) S hw 9 8 mg_9 mt_9 h11 e12 dM_landFirst_32 ?_
  have hg := jwr_e hf; clear hf; obtain ⟨h14, σ13, e15, hf⟩ := hg
  refine j_iast (pc := 33) (ws' := mC ca ad σ13) S hw 10 9 mg_10 mt_10 h14 (by rw [e15]; exact ms_10) dM_landFirst_33 (fun H locs hw => ?_)
  refine lv_aload_n (pc := 34) hx hb dM_landFirst_34 rfl (lv_at hl 1 rfl) ?_
  refine lv_dup (pc := 35) hx hb dM_landFirst_35 rfl ?_
  refine j_get (pc := 36) (v := .int (σ13 100 6)) S hw inM 0 6 16 mg_0 rfl (by decide) k_612 rfl dM_landFirst_36 ?_
  refine lv_iconst (pc := 39) (v := (1 : Int32)) hx hb dM_landFirst_39 (by decide) ?_
  refine lv_isub (pc := 40) hx hb dM_landFirst_40 ?_
  have hg := jst_e hf; clear hf; obtain ⟨σ16, e17, hf⟩ := hg
  refine j_put (pc := 41) (v := .int ((σ13 100 6) - (1 : Int32))) (ws' := mC ca ad σ16) S hw inM tyM tyM_ok nmM 0 6 16 mg_0 rfl (by decide) k_612 rfl rfl rfl (Nat.le_of_ble_eq_true rfl) (by rw [e17]; exact mp_6) dM_landFirst_41 (fun H locs hw => ?_)
  refine lv_iconst (pc := 44) (v := (0 : Int32)) hx hb dM_landFirst_44 (by decide) ?_
  refine lv_istore_n (pc := 45) (lv' := [(2, .int (0 : Int32)), (1, .int v1), (0, .ref (ad 0))]) hx hb dM_landFirst_45 rfl hl (by decide) rfl (fun ls hl => ?_)
  exact wmM_landFirst_L46g hA S hN hr hlk out  999 σ16 (0 : Int32) _ _ _ (lv_sub hl [2, 0] rfl) hw hf
set_option maxHeartbeats 4000000 in
set_option maxRecDepth 100000 in
theorem kM_landFirst (l : Launch) (D : va_G) (ca : Nat → ClassId) (ad : Nat → Nat) (sz : Nat) (σ : JS)  (out : JS) (hf : mM_landFirst σ  = some out) : Met l yM_landFirst wsM_landFirst rmM_landFirst (jPre D (mT ca) (mC ca ad σ) (mN (va_A (mC ca ad σ) sz)) sz [.ref (ad 0)]) (jQv D (mT ca) (mC ca ad) (va_A (mC ca ad σ) sz) out) 0 0 (va_A (mC ca ad σ) sz) := by
  refine Met.ofW (cc := cM_landFirst) (maxL := 3) (ret := none) (by decide) rfl ?_
  intro p e s m args below meth c s₁ B hml hv
  obtain ⟨rfl, hsz, hP, hK, hD0, hN⟩ := hv
  subst hsz
  have hl := lv_entry [.ref (ad 0)] (n := 3) (Nat.le_of_ble_eq_true rfl)
  rw [lg_entry_eq]
  generalize (lg_sl [.ref (ad 0)] ++ List.replicate (3 - (lg_sl [.ref (ad 0)]).length) Slot.unset).toArray = ls at hl ⊢
  exact bM_landFirst (fun q h => Or.inr h) ⟨B.exec, B.bytes, hml, findClass_of_methodNamed B.named, fun w h => atoms_spec (ws := wsM_landFirst) B.pre w (List.mem_cons_of_mem _ h)⟩ hN B.returns B.notSynchronized out σ  ls hl ⟨hP, hD0.self, va_S.rf, hK⟩ hf

def rmM_put : Room := { frames := 2, cells := 0, slots := 0, locals := 50 }
def mM_put (σ : JS) (x1 : Int32) (x2 : Int32) (x3 : Int32) (x4 : Int32) : Option (JS) :=
  jbn (mM_note σ (1 : Int32) x1 x2 x3 x4) fun q1 =>
  if (q1 100 6) = (24 : Int32) then
  (jbn (mM_landFirst q1 ) fun q8 =>
  jwr q8 11 24 (q8 100 6) (q8 100 2) fun σ10 =>
  jst (jw2 σ10 100 6 ((σ10 100 6) + (1 : Int32))) fun σ13 =>
  some σ13)
  else
  (jwr q1 11 24 (q1 100 6) (q1 100 2) fun σ3 =>
  jst (jw2 σ3 100 6 ((σ3 100 6) + (1 : Int32))) fun σ6 =>
  some σ6)
set_option maxHeartbeats 4000000 in
set_option maxRecDepth 100000 in
theorem bM_put {p : Program} {l : Launch} {e : Env} {s : State} {m : MethodId} {args : Array Value} {below : List Frame} {meth : Method} {c : Code} {D : va_G} {ca : Nat → ClassId} {ad : Nat → Nat} {A : Nat → Prop} (hA : ∀ q, s.heap.size ≤ q → A q) (S : CallFix p m c cM_put 5 s args jall RM) (hN : mN A s) (hr : meth.sig.returnType = none) (hlk : meth.locks = false) (out : JS) (σ : JS) (x1 : Int32) (x2 : Int32) (x3 : Int32) (x4 : Int32) (ls : Array Slot) (hl : lv_has ls 5 [(0, .ref (ad 0)), (1, .int x1), (2, .int x2), (3, .int x3), (4, .int x4)]) (hw : jH D (mT ca) (mC ca ad σ) A s.heap s.heap [] s) (hf : mM_put σ x1 x2 x3 x4 = some out) : W p l e (headSpec wsM_put rmM_put).room s m args below meth c s.heap [] 0 0 (MQ below (jQv D (mT ca) (mC ca ad) A out) args s 0 0 A) (F0 m 0 ls []) := by
  have hx := S.1
  have hb := S.2.1
  unfold mM_put at hf
  refine lv_aload_n (pc := 0) hx hb dM_put_0 rfl (lv_at hl 0 rfl) ?_
  refine lv_iconst (pc := 1) (v := (1 : Int32)) hx hb dM_put_1 (by decide) ?_
  refine lv_iload_n (pc := 2) hx hb dM_put_2 rfl (lv_at hl 1 rfl) ?_
  refine lv_iload_n (pc := 3) hx hb dM_put_3 rfl (lv_at hl 2 rfl) ?_
  refine lv_iload_n (pc := 4) hx hb dM_put_4 rfl (lv_at hl 3 rfl) ?_
  refine lv_iload (pc := 5) hx hb dM_put_5 (lv_at hl 4 rfl) ?_
  have hg := jbn_e hf; clear hf; obtain ⟨q1, h2, hf⟩ := hg
  refine j_callv (pc := 7) (C := mC ca ad) (σ' := q1) hw hA (va_runV (As := [.int (1 : Int32), .int x1, .int x2, .int x3, .int x4]) (rest := []) S (kM_note l D ca ad _ σ (1 : Int32) x1 x2 x3 x4 q1 h2) (cwV 5 S.2.2.2.2 (jgV k_723 k_725 ks_21 k_7 k_726) rfl rfl rfl (by decide +kernel) ⟨Nat.le_of_ble_eq_true rfl, Nat.le_of_ble_eq_true rfl⟩) (j_preV (As := [.int (1 : Int32), .int x1, .int x2, .int x3, .int x4]) hw mN_b (mN_to hN hw hA) rfl mg_0) rfl rfl hl.1 rfl (lv_room (Nat.le_of_ble_eq_true rfl)) dM_put_7 ⟨Nat.le_of_ble_eq_true rfl, Nat.le_of_ble_eq_true rfl⟩) (fun H locs hw => ?_)
  refine lv_aload_n (pc := 10) hx hb dM_put_10 rfl (lv_at hl 0 rfl) ?_
  refine j_get (pc := 11) (v := .int (q1 100 6)) S hw inM 0 6 16 mg_0 rfl (by decide) k_612 rfl dM_put_11 ?_
  refine lv_bipush (pc := 14) (v := (24 : Int32)) hx hb dM_put_14 (by decide) ?_
  refine lv_icmp_ne (pc := 16) (tgt := 23) hx hb dM_put_16 (by decide) (fun hc => ?_) (fun hc => ?_)
  · replace hf := jif hf hc
    refine lv_aload_n (pc := 23) hx hb dM_put_23 rfl (lv_at hl 0 rfl) ?_
    refine j_get (pc := 24) (v := .ref (ad 11)) S hw inM 0 6 17 mg_0 rfl (by decide) k_613 rfl dM_put_24 ?_
    refine lv_aload_n (pc := 27) hx hb dM_put_27 rfl (lv_at hl 0 rfl) ?_
    refine j_get (pc := 28) (v := .int (q1 100 6)) S hw inM 0 6 16 mg_0 rfl (by decide) k_612 rfl dM_put_28 ?_
    refine lv_aload_n (pc := 31) hx hb dM_put_31 rfl (lv_at hl 0 rfl) ?_
    refine j_get (pc := 32) (v := .int (q1 100 2)) S hw inM 0 6 5 mg_0 rfl (by decide) k_601 rfl dM_put_32 ?_
    have hg := jwr_e hf; clear hf; obtain ⟨h4, σ3, e5, hf⟩ := hg
    refine j_iast (pc := 35) (ws' := mC ca ad σ3) S hw 11 10 mg_11 mt_11 h4 (by rw [e5]; exact ms_11) dM_put_35 (fun H locs hw => ?_)
    refine lv_aload_n (pc := 36) hx hb dM_put_36 rfl (lv_at hl 0 rfl) ?_
    refine lv_dup (pc := 37) hx hb dM_put_37 rfl ?_
    refine j_get (pc := 38) (v := .int (σ3 100 6)) S hw inM 0 6 16 mg_0 rfl (by decide) k_612 rfl dM_put_38 ?_
    refine lv_iconst (pc := 41) (v := (1 : Int32)) hx hb dM_put_41 (by decide) ?_
    refine lv_iadd (pc := 42) hx hb dM_put_42 ?_
    have hg := jst_e hf; clear hf; obtain ⟨σ6, e7, hf⟩ := hg
    refine j_put (pc := 43) (v := .int ((σ3 100 6) + (1 : Int32))) (ws' := mC ca ad σ6) S hw inM tyM tyM_ok nmM 0 6 16 mg_0 rfl (by decide) k_612 rfl rfl rfl (Nat.le_of_ble_eq_true rfl) (by rw [e7]; exact mp_6) dM_put_43 (fun H locs hw => ?_)
    obtain rfl := jsm hf
    exact j_vret (pc := 46) S hw hr hlk dM_put_46
  · replace hf := jit hf hc
    refine lv_aload_n (pc := 19) hx hb dM_put_19 rfl (lv_at hl 0 rfl) ?_
    have hg := jbn_e hf; clear hf; obtain ⟨q8, h9, hf⟩ := hg
    refine j_callv (pc := 20) (C := mC ca ad) (σ' := q8) hw hA (va_runV (As := []) (rest := []) S (kM_landFirst l D ca ad _ q1  q8 h9) (cwV 0 S.2.2.2.2 (jgV k_731 k_733 ks_22 k_7 k_734) rfl rfl rfl (by decide +kernel) ⟨Nat.le_of_ble_eq_true rfl, Nat.le_of_ble_eq_true rfl⟩) (j_preV (As := []) hw mN_b (mN_to hN hw hA) rfl mg_0) rfl rfl hl.1 rfl (lv_room (Nat.le_of_ble_eq_true rfl)) dM_put_20 ⟨Nat.le_of_ble_eq_true rfl, Nat.le_of_ble_eq_true rfl⟩) (fun H locs hw => ?_)
    refine lv_aload_n (pc := 23) hx hb dM_put_23 rfl (lv_at hl 0 rfl) ?_
    refine j_get (pc := 24) (v := .ref (ad 11)) S hw inM 0 6 17 mg_0 rfl (by decide) k_613 rfl dM_put_24 ?_
    refine lv_aload_n (pc := 27) hx hb dM_put_27 rfl (lv_at hl 0 rfl) ?_
    refine j_get (pc := 28) (v := .int (q8 100 6)) S hw inM 0 6 16 mg_0 rfl (by decide) k_612 rfl dM_put_28 ?_
    refine lv_aload_n (pc := 31) hx hb dM_put_31 rfl (lv_at hl 0 rfl) ?_
    refine j_get (pc := 32) (v := .int (q8 100 2)) S hw inM 0 6 5 mg_0 rfl (by decide) k_601 rfl dM_put_32 ?_
    have hg := jwr_e hf; clear hf; obtain ⟨h11, σ10, e12, hf⟩ := hg
    refine j_iast (pc := 35) (ws' := mC ca ad σ10) S hw 11 10 mg_11 mt_11 h11 (by rw [e12]; exact ms_11) dM_put_35 (fun H locs hw => ?_)
    refine lv_aload_n (pc := 36) hx hb dM_put_36 rfl (lv_at hl 0 rfl) ?_
    refine lv_dup (pc := 37) hx hb dM_put_37 rfl ?_
    refine j_get (pc := 38) (v := .int (σ10 100 6)) S hw inM 0 6 16 mg_0 rfl (by decide) k_612 rfl dM_put_38 ?_
    refine lv_iconst (pc := 41) (v := (1 : Int32)) hx hb dM_put_41 (by decide) ?_
    refine lv_iadd (pc := 42) hx hb dM_put_42 ?_
    have hg := jst_e hf; clear hf; obtain ⟨σ13, e14, hf⟩ := hg
    refine j_put (pc := 43) (v := .int ((σ10 100 6) + (1 : Int32))) (ws' := mC ca ad σ13) S hw inM tyM tyM_ok nmM 0 6 16 mg_0 rfl (by decide) k_612 rfl rfl rfl (Nat.le_of_ble_eq_true rfl) (by rw [e14]; exact mp_6) dM_put_43 (fun H locs hw => ?_)
    obtain rfl := jsm hf
    exact j_vret (pc := 46) S hw hr hlk dM_put_46
set_option maxHeartbeats 4000000 in
set_option maxRecDepth 100000 in
theorem kM_put (l : Launch) (D : va_G) (ca : Nat → ClassId) (ad : Nat → Nat) (sz : Nat) (σ : JS) (x1 : Int32) (x2 : Int32) (x3 : Int32) (x4 : Int32) (out : JS) (hf : mM_put σ x1 x2 x3 x4 = some out) : Met l yM_put wsM_put rmM_put (jPre D (mT ca) (mC ca ad σ) (mN (va_A (mC ca ad σ) sz)) sz [.ref (ad 0), .int x1, .int x2, .int x3, .int x4]) (jQv D (mT ca) (mC ca ad) (va_A (mC ca ad σ) sz) out) 0 0 (va_A (mC ca ad σ) sz) := by
  refine Met.ofW (cc := cM_put) (maxL := 5) (ret := none) (by decide) rfl ?_
  intro p e s m args below meth c s₁ B hml hv
  obtain ⟨rfl, hsz, hP, hK, hD0, hN⟩ := hv
  subst hsz
  have hl := lv_entry [.ref (ad 0), .int x1, .int x2, .int x3, .int x4] (n := 5) (Nat.le_of_ble_eq_true rfl)
  rw [lg_entry_eq]
  generalize (lg_sl [.ref (ad 0), .int x1, .int x2, .int x3, .int x4] ++ List.replicate (5 - (lg_sl [.ref (ad 0), .int x1, .int x2, .int x3, .int x4]).length) Slot.unset).toArray = ls at hl ⊢
  exact bM_put (fun q h => Or.inr h) ⟨B.exec, B.bytes, hml, findClass_of_methodNamed B.named, fun w h => atoms_spec (ws := wsM_put) B.pre w (List.mem_cons_of_mem _ h)⟩ hN B.returns B.notSynchronized out σ x1 x2 x3 x4 ls hl ⟨hP, hD0.self, va_S.rf, hK⟩ hf

def rmM_undo : Room := { frames := 3, cells := 0, slots := 0, locals := 74 }
def mM_undo_L15 (k : JS → Int32 → Option (JS)) (x1 : Int32) (x2 : Int32) : Nat → JS → Int32 → Option (JS)
  | 0, _, _ => none
  | n + 1, σ, x3 =>
    if x3 < x2 then
    (k σ x3)
    else
    (jrd σ 5 121 x3 fun v3 =>
    if v3 = x1 then
    (jrd σ 6 121 x3 fun v6 =>
    jrd σ 7 121 x3 fun v9 =>
    jrd σ 8 121 x3 fun v12 =>
    jbn (mM_put σ x1 v6 v9 v12) fun q15 =>
    mM_undo_L15 k x1 x2 n q15 (x3 + (-1)))
    else
    (mM_undo_L15 k x1 x2 n σ (x3 + (-1))))
def mM_undo (σ : JS) (x1 : Int32) : Option (JS) :=
  jbn (mM_cycleAt σ x1 (σ 100 2)) fun q1 =>
  mM_undo_L15 (fun σ17 z18 =>
  jbn (mM_note σ17 (3 : Int32) x1 (0 : Int32) (0 : Int32) (0 : Int32)) fun q19 =>
  some q19) x1 q1 999 σ (σ 100 2)
set_option maxHeartbeats 4000000 in
set_option maxRecDepth 100000 in
theorem wmM_undo_L15g {p : Program} {l : Launch} {e : Env} {s : State} {m : MethodId} {args : Array Value} {below : List Frame} {meth : Method} {c : Code} {D : va_G} {ca : Nat → ClassId} {ad : Nat → Nat} {A : Nat → Prop} (hA : ∀ q, s.heap.size ≤ q → A q) (S : CallFix p m c cM_undo 4 s args jall RM) (hN : mN A s) (hr : meth.sig.returnType = none) (hlk : meth.locks = false) (out : JS) (k : JS → Int32 → Option (JS)) (x1 : Int32) (x2 : Int32) (hk : ∀ (σ : JS) (x3 : Int32) (ls : Array Slot) (H : Heap) (locs : List Loc), lv_has ls 4 [(0, .ref (ad 0)), (1, .int x1), (2, .int x2), (3, .int x3)] → jH D (mT ca) (mC ca ad σ) A s.heap H locs s → k σ x3 = some out → W p l e (headSpec wsM_undo rmM_undo).room s m args below meth c H locs 0 0 (MQ below (jQv D (mT ca) (mC ca ad) A out) args s 0 0 A) (F0 m 59 ls [])) : ∀ (n : Nat) (σ : JS) (x3 : Int32) (ls : Array Slot) (H : Heap) (locs : List Loc), lv_has ls 4 [(0, .ref (ad 0)), (1, .int x1), (2, .int x2), (3, .int x3)] → jH D (mT ca) (mC ca ad σ) A s.heap H locs s → mM_undo_L15 k x1 x2 n σ x3 = some out → W p l e (headSpec wsM_undo rmM_undo).room s m args below meth c H locs 0 0 (MQ below (jQv D (mT ca) (mC ca ad) A out) args s 0 0 A) (F0 m 15 ls []) := by
  have hx := S.1
  have hb := S.2.1
  intro n
  induction n with
  | zero => intro σ x3 ls H locs hl hw hf; cases hf
  | succ n ih =>
    intro σ x3 ls H locs hl hw hf
    rw [mM_undo_L15] at hf
    refine lv_iload_n (pc := 15) hx hb dM_undo_15 rfl (lv_at hl 3 rfl) ?_
    refine lv_iload_n (pc := 16) hx hb dM_undo_16 rfl (lv_at hl 2 rfl) ?_
    refine lv_icmp_lt (pc := 17) (tgt := 59) hx hb dM_undo_17 (by decide) (fun hc => ?_) (fun hc => ?_)
    · replace hf := jit hf hc
      exact hk σ x3 _ _ _ (lv_sub hl [0, 1, 2, 3] rfl) hw hf
    · replace hf := jif hf hc
      refine lv_aload_n (pc := 20) hx hb dM_undo_20 rfl (lv_at hl 0 rfl) ?_
      refine j_get (pc := 21) (v := .ref (ad 5)) S hw inM 0 6 10 mg_0 rfl (by decide) k_606 rfl dM_undo_21 ?_
      refine lv_iload_n (pc := 24) hx hb dM_undo_24 rfl (lv_at hl 3 rfl) ?_
      have hg := jrd_e hf; clear hf; obtain ⟨h4, v3, e5, hf⟩ := hg
      refine j_iald (pc := 25) S hw 5 4 mg_5 mt_5 h4 e5 dM_undo_25 ?_
      refine lv_iload_n (pc := 26) hx hb dM_undo_26 rfl (lv_at hl 1 rfl) ?_
      refine lv_icmp_ne (pc := 27) (tgt := 53) hx hb dM_undo_27 (by decide) (fun hc => ?_) (fun hc => ?_)
      · replace hf := jif hf hc
        refine lv_iinc (pc := 53) (v := (x3 + (-1))) (k := 3) (lv' := [(3, .int (x3 + (-1))), (0, .ref (ad 0)), (1, .int x1), (2, .int x2)]) hx hb dM_undo_53 hl rfl (j_inc _ (by decide)) (by decide) rfl (fun ls hl => ?_)
        refine lv_goto (pc := 56) (tgt := 15) hx hb dM_undo_56 (by decide) ?_
        exact ih σ (x3 + (-1)) _ _ _ (lv_sub hl [1, 2, 3, 0] rfl) hw hf
      · replace hf := jit hf hc
        refine lv_aload_n (pc := 30) hx hb dM_undo_30 rfl (lv_at hl 0 rfl) ?_
        refine lv_iload_n (pc := 31) hx hb dM_undo_31 rfl (lv_at hl 1 rfl) ?_
        refine lv_aload_n (pc := 32) hx hb dM_undo_32 rfl (lv_at hl 0 rfl) ?_
        refine j_get (pc := 33) (v := .ref (ad 6)) S hw inM 0 6 11 mg_0 rfl (by decide) k_607 rfl dM_undo_33 ?_
        refine lv_iload_n (pc := 36) hx hb dM_undo_36 rfl (lv_at hl 3 rfl) ?_
        have hg := jrd_e hf; clear hf; obtain ⟨h7, v6, e8, hf⟩ := hg
        refine j_iald (pc := 37) S hw 6 5 mg_6 mt_6 h7 e8 dM_undo_37 ?_
        refine lv_aload_n (pc := 38) hx hb dM_undo_38 rfl (lv_at hl 0 rfl) ?_
        refine j_get (pc := 39) (v := .ref (ad 7)) S hw inM 0 6 12 mg_0 rfl (by decide) k_608 rfl dM_undo_39 ?_
        refine lv_iload_n (pc := 42) hx hb dM_undo_42 rfl (lv_at hl 3 rfl) ?_
        have hg := jrd_e hf; clear hf; obtain ⟨h10, v9, e11, hf⟩ := hg
        refine j_iald (pc := 43) S hw 7 6 mg_7 mt_7 h10 e11 dM_undo_43 ?_
        refine lv_aload_n (pc := 44) hx hb dM_undo_44 rfl (lv_at hl 0 rfl) ?_
        refine j_get (pc := 45) (v := .ref (ad 8)) S hw inM 0 6 13 mg_0 rfl (by decide) k_609 rfl dM_undo_45 ?_
        refine lv_iload_n (pc := 48) hx hb dM_undo_48 rfl (lv_at hl 3 rfl) ?_
        have hg := jrd_e hf; clear hf; obtain ⟨h13, v12, e14, hf⟩ := hg
        refine j_iald (pc := 49) S hw 8 7 mg_8 mt_8 h13 e14 dM_undo_49 ?_
        have hg := jbn_e hf; clear hf; obtain ⟨q15, h16, hf⟩ := hg
        refine j_callv (pc := 50) (C := mC ca ad) (σ' := q15) hw hA (va_runV (As := [.int x1, .int v6, .int v9, .int v12]) (rest := []) S (kM_put l D ca ad _ σ x1 v6 v9 v12 q15 h16) (cwV 4 S.2.2.2.2 (jgV k_719 k_721 ks_23 k_7 k_722) rfl rfl rfl (by decide +kernel) ⟨Nat.le_of_ble_eq_true rfl, Nat.le_of_ble_eq_true rfl⟩) (j_preV (As := [.int x1, .int v6, .int v9, .int v12]) hw mN_b (mN_to hN hw hA) rfl mg_0) rfl rfl hl.1 rfl (lv_room (Nat.le_of_ble_eq_true rfl)) dM_undo_50 ⟨Nat.le_of_ble_eq_true rfl, Nat.le_of_ble_eq_true rfl⟩) (fun H locs hw => ?_)
        refine lv_iinc (pc := 53) (v := (x3 + (-1))) (k := 3) (lv' := [(3, .int (x3 + (-1))), (0, .ref (ad 0)), (1, .int x1), (2, .int x2)]) hx hb dM_undo_53 hl rfl (j_inc _ (by decide)) (by decide) rfl (fun ls hl => ?_)
        refine lv_goto (pc := 56) (tgt := 15) hx hb dM_undo_56 (by decide) ?_
        exact ih q15 (x3 + (-1)) _ _ _ (lv_sub hl [1, 2, 3, 0] rfl) hw hf
set_option maxHeartbeats 4000000 in
set_option maxRecDepth 100000 in
theorem bM_undo {p : Program} {l : Launch} {e : Env} {s : State} {m : MethodId} {args : Array Value} {below : List Frame} {meth : Method} {c : Code} {D : va_G} {ca : Nat → ClassId} {ad : Nat → Nat} {A : Nat → Prop} (hA : ∀ q, s.heap.size ≤ q → A q) (S : CallFix p m c cM_undo 4 s args jall RM) (hN : mN A s) (hr : meth.sig.returnType = none) (hlk : meth.locks = false) (out : JS) (σ : JS) (x1 : Int32) (ls : Array Slot) (hl : lv_has ls 4 [(0, .ref (ad 0)), (1, .int x1)]) (hw : jH D (mT ca) (mC ca ad σ) A s.heap s.heap [] s) (hf : mM_undo σ x1 = some out) : W p l e (headSpec wsM_undo rmM_undo).room s m args below meth c s.heap [] 0 0 (MQ below (jQv D (mT ca) (mC ca ad) A out) args s 0 0 A) (F0 m 0 ls []) := by
  have hx := S.1
  have hb := S.2.1
  unfold mM_undo at hf
  refine lv_aload_n (pc := 0) hx hb dM_undo_0 rfl (lv_at hl 0 rfl) ?_
  refine lv_iload_n (pc := 1) hx hb dM_undo_1 rfl (lv_at hl 1 rfl) ?_
  refine lv_aload_n (pc := 2) hx hb dM_undo_2 rfl (lv_at hl 0 rfl) ?_
  refine j_get (pc := 3) (v := .int (σ 100 2)) S hw inM 0 6 5 mg_0 rfl (by decide) k_601 rfl dM_undo_3 ?_
  have hg := jbn_e hf; clear hf; obtain ⟨q1, h2, hf⟩ := hg
  refine j_cpi (pc := 6) (v := q1) (va_runV (As := [.int x1, .int (σ 100 2)]) (rest := []) S (kM_cycleAt l D ca ad _ σ x1 (σ 100 2) q1 h2) (cwV 2 S.2.2.2.2 (jgV k_703 k_705 ks_18 k_7 k_706) rfl rfl rfl (by decide +kernel) ⟨Nat.le_of_ble_eq_true rfl, Nat.le_of_ble_eq_true rfl⟩) (j_preV (As := [.int x1, .int (σ 100 2)]) hw mN_b (mN_to hN hw hA) rfl mg_0) rfl rfl hl.1 rfl (lv_room (Nat.le_of_ble_eq_true rfl)) dM_undo_6 ⟨Nat.le_of_ble_eq_true rfl, Nat.le_of_ble_eq_true rfl⟩) ?_
  refine lv_istore_n (pc := 9) (lv' := [(2, .int q1), (0, .ref (ad 0)), (1, .int x1)]) hx hb dM_undo_9 rfl hl (by decide) rfl (fun ls hl => ?_)
  refine lv_aload_n (pc := 10) hx hb dM_undo_10 rfl (lv_at hl 1 rfl) ?_
  refine j_get (pc := 11) (v := .int (σ 100 2)) S hw inM 0 6 5 mg_0 rfl (by decide) k_601 rfl dM_undo_11 ?_
  refine lv_istore_n (pc := 14) (lv' := [(3, .int (σ 100 2)), (2, .int q1), (0, .ref (ad 0)), (1, .int x1)]) hx hb dM_undo_14 rfl hl (by decide) rfl (fun ls hl => ?_)
  refine wmM_undo_L15g hA S hN hr hlk out _ x1 q1 (fun σ17 z18 ls H locs hl hw hf => ?_) 999 σ (σ 100 2) _ _ _ (lv_sub hl [2, 3, 1, 0] rfl) hw hf
  try dsimp only at hf
  refine lv_aload_n (pc := 59) hx hb dM_undo_59 rfl (lv_at hl 0 rfl) ?_
  refine lv_iconst (pc := 60) (v := (3 : Int32)) hx hb dM_undo_60 (by decide) ?_
  refine lv_iload_n (pc := 61) hx hb dM_undo_61 rfl (lv_at hl 1 rfl) ?_
  refine lv_iconst (pc := 62) (v := (0 : Int32)) hx hb dM_undo_62 (by decide) ?_
  refine lv_iconst (pc := 63) (v := (0 : Int32)) hx hb dM_undo_63 (by decide) ?_
  refine lv_iconst (pc := 64) (v := (0 : Int32)) hx hb dM_undo_64 (by decide) ?_
  have hg := jbn_e hf; clear hf; obtain ⟨q19, h20, hf⟩ := hg
  refine j_callv (pc := 65) (C := mC ca ad) (σ' := q19) hw hA (va_runV (As := [.int (3 : Int32), .int x1, .int (0 : Int32), .int (0 : Int32), .int (0 : Int32)]) (rest := []) S (kM_note l D ca ad _ σ17 (3 : Int32) x1 (0 : Int32) (0 : Int32) (0 : Int32) q19 h20) (cwV 5 S.2.2.2.2 (jgV k_723 k_725 ks_21 k_7 k_726) rfl rfl rfl (by decide +kernel) ⟨Nat.le_of_ble_eq_true rfl, Nat.le_of_ble_eq_true rfl⟩) (j_preV (As := [.int (3 : Int32), .int x1, .int (0 : Int32), .int (0 : Int32), .int (0 : Int32)]) hw mN_b (mN_to hN hw hA) rfl mg_0) rfl rfl hl.1 rfl (lv_room (Nat.le_of_ble_eq_true rfl)) dM_undo_65 ⟨Nat.le_of_ble_eq_true rfl, Nat.le_of_ble_eq_true rfl⟩) (fun H locs hw => ?_)
  obtain rfl := jsm hf
  exact j_vret (pc := 68) S hw hr hlk dM_undo_68
set_option maxHeartbeats 4000000 in
set_option maxRecDepth 100000 in
theorem kM_undo (l : Launch) (D : va_G) (ca : Nat → ClassId) (ad : Nat → Nat) (sz : Nat) (σ : JS) (x1 : Int32) (out : JS) (hf : mM_undo σ x1 = some out) : Met l yM_undo wsM_undo rmM_undo (jPre D (mT ca) (mC ca ad σ) (mN (va_A (mC ca ad σ) sz)) sz [.ref (ad 0), .int x1]) (jQv D (mT ca) (mC ca ad) (va_A (mC ca ad σ) sz) out) 0 0 (va_A (mC ca ad σ) sz) := by
  refine Met.ofW (cc := cM_undo) (maxL := 4) (ret := none) (by decide) rfl ?_
  intro p e s m args below meth c s₁ B hml hv
  obtain ⟨rfl, hsz, hP, hK, hD0, hN⟩ := hv
  subst hsz
  have hl := lv_entry [.ref (ad 0), .int x1] (n := 4) (Nat.le_of_ble_eq_true rfl)
  rw [lg_entry_eq]
  generalize (lg_sl [.ref (ad 0), .int x1] ++ List.replicate (4 - (lg_sl [.ref (ad 0), .int x1]).length) Slot.unset).toArray = ls at hl ⊢
  exact bM_undo (fun q h => Or.inr h) ⟨B.exec, B.bytes, hml, findClass_of_methodNamed B.named, fun w h => atoms_spec (ws := wsM_undo) B.pre w (List.mem_cons_of_mem _ h)⟩ hN B.returns B.notSynchronized out σ x1 ls hl ⟨hP, hD0.self, va_S.rf, hK⟩ hf

def rmM_file : Room := { frames := 1, cells := 0, slots := 0, locals := 22 }
def mM_file_J35 (σ : JS) (x1 : Int32) (y0 : Int32) : Option (Int32 × JS) :=
  jst (jw2 σ 100 0 y0) fun σ3 =>
  if (σ3 100 0) ≤ 0 then
  (jwr σ3 1 3 (σ3 100 1) x1 fun σ5 =>
  jwr σ5 2 3 (σ5 100 1) (-1 : Int32) fun σ8 =>
  jst (jw2 σ8 100 1 ((σ8 100 1) + (1 : Int32))) fun σ11 =>
  some (((σ11 100 1) - (1 : Int32)), σ11))
  else
  (some ((0 : Int32), σ3))
def mM_file_J30 (σ : JS) (x1 : Int32) : Option (Int32 × JS) :=
  mM_file_J35 σ x1 (2 : Int32)
def mM_file (σ : JS) (x1 : Int32) : Option (Int32 × JS) :=
  jbn (mM_within σ x1 (1 : Int32) (8 : Int32)) fun q1 =>
  if q1 = 0 then
  (mM_file_J35 σ x1 (1 : Int32))
  else
  (if (σ 100 5) = 0 then
  (if (σ 100 1) = (3 : Int32) then
  (mM_file_J30 σ x1)
  else
  (mM_file_J35 σ x1 (0 : Int32)))
  else
  (mM_file_J30 σ x1))
set_option maxHeartbeats 4000000 in
set_option maxRecDepth 100000 in
theorem wmM_file_J35 {p : Program} {l : Launch} {e : Env} {s : State} {m : MethodId} {args : Array Value} {below : List Frame} {meth : Method} {c : Code} {D : va_G} {ca : Nat → ClassId} {ad : Nat → Nat} {A : Nat → Prop} (hA : ∀ q, s.heap.size ≤ q → A q) (S : CallFix p m c cM_file 2 s args jall RM) (hN : mN A s) (hr : meth.sig.returnType = some .int) (hlk : meth.locks = false) (out : Int32 × JS) (σ : JS) (x1 : Int32) (y0 : Int32) (ls : Array Slot) (hl : lv_has ls 2 [(0, .ref (ad 0)), (1, .int x1)]) (hw : jH D (mT ca) (mC ca ad σ) A s.heap s.heap [] s) (hf : mM_file_J35 σ x1 y0 = some out) : W p l e (headSpec wsM_file rmM_file).room s m args below meth c s.heap [] 0 0 (MQ below (jQi D (mT ca) (mC ca ad) A out.1 out.2) args s 0 0 A) (F0 m 35 ls [.int y0, .ref (ad 0)]) := by
  have hx := S.1
  have hb := S.2.1
  unfold mM_file_J35 at hf
  have hg := jst_e hf; clear hf; obtain ⟨σ3, e4, hf⟩ := hg
  refine j_put (pc := 35) (v := .int y0) (ws' := mC ca ad σ3) S hw inM tyM tyM_ok nmM 0 6 0 mg_0 rfl (by decide) k_596 rfl rfl rfl (Nat.le_of_ble_eq_true rfl) (by rw [e4]; exact mp_0) dM_file_35 (fun H locs hw => ?_)
  refine lv_aload_n (pc := 38) hx hb dM_file_38 rfl (lv_at hl 0 rfl) ?_
  refine j_get (pc := 39) (v := .int (σ3 100 0)) S hw inM 0 6 0 mg_0 rfl (by decide) k_596 rfl dM_file_39 ?_
  refine lv_if_le (pc := 42) (tgt := 47) hx hb dM_file_42 (by decide) (fun hc => ?_) (fun hc => ?_)
  · replace hf := jit hf hc
    refine lv_aload_n (pc := 47) hx hb dM_file_47 rfl (lv_at hl 0 rfl) ?_
    refine j_get (pc := 48) (v := .ref (ad 1)) S hw inM 0 6 2 mg_0 rfl (by decide) k_598 rfl dM_file_48 ?_
    refine lv_aload_n (pc := 51) hx hb dM_file_51 rfl (lv_at hl 0 rfl) ?_
    refine j_get (pc := 52) (v := .int (σ3 100 1)) S hw inM 0 6 1 mg_0 rfl (by decide) k_597 rfl dM_file_52 ?_
    refine lv_iload_n (pc := 55) hx hb dM_file_55 rfl (lv_at hl 1 rfl) ?_
    have hg := jwr_e hf; clear hf; obtain ⟨h6, σ5, e7, hf⟩ := hg
    refine j_iast (pc := 56) (ws' := mC ca ad σ5) S hw 1 0 mg_1 mt_1 h6 (by rw [e7]; exact ms_1) dM_file_56 (fun H locs hw => ?_)
    refine lv_aload_n (pc := 57) hx hb dM_file_57 rfl (lv_at hl 0 rfl) ?_
    refine j_get (pc := 58) (v := .ref (ad 2)) S hw inM 0 6 3 mg_0 rfl (by decide) k_599 rfl dM_file_58 ?_
    refine lv_aload_n (pc := 61) hx hb dM_file_61 rfl (lv_at hl 0 rfl) ?_
    refine j_get (pc := 62) (v := .int (σ5 100 1)) S hw inM 0 6 1 mg_0 rfl (by decide) k_597 rfl dM_file_62 ?_
    refine lv_iconst (pc := 65) (v := (-1 : Int32)) hx hb dM_file_65 (by decide) ?_
    have hg := jwr_e hf; clear hf; obtain ⟨h9, σ8, e10, hf⟩ := hg
    refine j_iast (pc := 66) (ws' := mC ca ad σ8) S hw 2 1 mg_2 mt_2 h9 (by rw [e10]; exact ms_2) dM_file_66 (fun H locs hw => ?_)
    refine lv_aload_n (pc := 67) hx hb dM_file_67 rfl (lv_at hl 0 rfl) ?_
    refine lv_dup (pc := 68) hx hb dM_file_68 rfl ?_
    refine j_get (pc := 69) (v := .int (σ8 100 1)) S hw inM 0 6 1 mg_0 rfl (by decide) k_597 rfl dM_file_69 ?_
    refine lv_iconst (pc := 72) (v := (1 : Int32)) hx hb dM_file_72 (by decide) ?_
    refine lv_iadd (pc := 73) hx hb dM_file_73 ?_
    have hg := jst_e hf; clear hf; obtain ⟨σ11, e12, hf⟩ := hg
    refine j_put (pc := 74) (v := .int ((σ8 100 1) + (1 : Int32))) (ws' := mC ca ad σ11) S hw inM tyM tyM_ok nmM 0 6 1 mg_0 rfl (by decide) k_597 rfl rfl rfl (Nat.le_of_ble_eq_true rfl) (by rw [e12]; exact mp_1) dM_file_74 (fun H locs hw => ?_)
    refine lv_aload_n (pc := 77) hx hb dM_file_77 rfl (lv_at hl 0 rfl) ?_
    refine j_get (pc := 78) (v := .int (σ11 100 1)) S hw inM 0 6 1 mg_0 rfl (by decide) k_597 rfl dM_file_78 ?_
    refine lv_iconst (pc := 81) (v := (1 : Int32)) hx hb dM_file_81 (by decide) ?_
    refine lv_isub (pc := 82) hx hb dM_file_82 ?_
    obtain rfl := jsm hf
    exact j_iret (pc := 83) S hw hr hlk dM_file_83
  · replace hf := jif hf hc
    refine lv_iconst (pc := 45) (v := (0 : Int32)) hx hb dM_file_45 (by decide) ?_
    obtain rfl := jsm hf
    exact j_iret (pc := 46) S hw hr hlk dM_file_46
set_option maxHeartbeats 4000000 in
set_option maxRecDepth 100000 in
theorem wmM_file_J30 {p : Program} {l : Launch} {e : Env} {s : State} {m : MethodId} {args : Array Value} {below : List Frame} {meth : Method} {c : Code} {D : va_G} {ca : Nat → ClassId} {ad : Nat → Nat} {A : Nat → Prop} (hA : ∀ q, s.heap.size ≤ q → A q) (S : CallFix p m c cM_file 2 s args jall RM) (hN : mN A s) (hr : meth.sig.returnType = some .int) (hlk : meth.locks = false) (out : Int32 × JS) (σ : JS) (x1 : Int32) (ls : Array Slot) (hl : lv_has ls 2 [(0, .ref (ad 0)), (1, .int x1)]) (hw : jH D (mT ca) (mC ca ad σ) A s.heap s.heap [] s) (hf : mM_file_J30 σ x1 = some out) : W p l e (headSpec wsM_file rmM_file).room s m args below meth c s.heap [] 0 0 (MQ below (jQi D (mT ca) (mC ca ad) A out.1 out.2) args s 0 0 A) (F0 m 30 ls [.ref (ad 0)]) := by
  have hx := S.1
  have hb := S.2.1
  unfold mM_file_J30 at hf
  refine lv_iconst (pc := 30) (v := (2 : Int32)) hx hb dM_file_30 (by decide) ?_
  refine lv_goto (pc := 31) (tgt := 35) hx hb dM_file_31 (by decide) ?_
  exact wmM_file_J35 hA S hN hr hlk out σ x1 (2 : Int32) _ (lv_sub hl [0, 1] rfl) hw hf
set_option maxHeartbeats 4000000 in
set_option maxRecDepth 100000 in
theorem bM_file {p : Program} {l : Launch} {e : Env} {s : State} {m : MethodId} {args : Array Value} {below : List Frame} {meth : Method} {c : Code} {D : va_G} {ca : Nat → ClassId} {ad : Nat → Nat} {A : Nat → Prop} (hA : ∀ q, s.heap.size ≤ q → A q) (S : CallFix p m c cM_file 2 s args jall RM) (hN : mN A s) (hr : meth.sig.returnType = some .int) (hlk : meth.locks = false) (out : Int32 × JS) (σ : JS) (x1 : Int32) (ls : Array Slot) (hl : lv_has ls 2 [(0, .ref (ad 0)), (1, .int x1)]) (hw : jH D (mT ca) (mC ca ad σ) A s.heap s.heap [] s) (hf : mM_file σ x1 = some out) : W p l e (headSpec wsM_file rmM_file).room s m args below meth c s.heap [] 0 0 (MQ below (jQi D (mT ca) (mC ca ad) A out.1 out.2) args s 0 0 A) (F0 m 0 ls []) := by
  have hx := S.1
  have hb := S.2.1
  unfold mM_file at hf
  refine lv_aload_n (pc := 0) hx hb dM_file_0 rfl (lv_at hl 0 rfl) ?_
  refine lv_iload_n (pc := 1) hx hb dM_file_1 rfl (lv_at hl 1 rfl) ?_
  refine lv_iconst (pc := 2) (v := (1 : Int32)) hx hb dM_file_2 (by decide) ?_
  refine lv_bipush (pc := 3) (v := (8 : Int32)) hx hb dM_file_3 (by decide) ?_
  have hg := jbn_e hf; clear hf; obtain ⟨q1, h2, hf⟩ := hg
  refine j_cpi (pc := 5) (v := q1) (va_runS (As := [.int x1, .int (1 : Int32), .int (8 : Int32)]) (rest := [.ref (ad 0)]) S (kM_within l D ca ad _ σ x1 (1 : Int32) (8 : Int32) q1 h2) (cwS 3 S.2.2.2.2 (jgS k_680 k_681 k_7 k_682) rfl rfl rfl (by decide +kernel) ⟨Nat.le_of_ble_eq_true rfl, Nat.le_of_ble_eq_true rfl⟩) (j_preS hw mN_b (mN_to hN hw hA)) rfl rfl hl.1 rfl (lv_room (Nat.le_of_ble_eq_true rfl)) dM_file_5 ⟨Nat.le_of_ble_eq_true rfl, Nat.le_of_ble_eq_true rfl⟩) ?_
  refine lv_if_ne (pc := 8) (tgt := 15) hx hb dM_file_8 (by decide) (fun hc => ?_) (fun hc => ?_)
  · replace hf := jif hf hc
    refine lv_aload_n (pc := 15) hx hb dM_file_15 rfl (lv_at hl 0 rfl) ?_
    refine j_get (pc := 16) (v := .int (σ 100 5)) S hw inM 0 6 8 mg_0 rfl (by decide) k_604 rfl dM_file_16 ?_
    refine lv_if_ne (pc := 19) (tgt := 30) hx hb dM_file_19 (by decide) (fun hc => ?_) (fun hc => ?_)
    · replace hf := jif hf hc
      exact wmM_file_J30 hA S hN hr hlk out σ x1 _ (lv_sub hl [0, 1] rfl) hw hf
    · replace hf := jit hf hc
      refine lv_aload_n (pc := 22) hx hb dM_file_22 rfl (lv_at hl 0 rfl) ?_
      refine j_get (pc := 23) (v := .int (σ 100 1)) S hw inM 0 6 1 mg_0 rfl (by decide) k_597 rfl dM_file_23 ?_
      refine lv_iconst (pc := 26) (v := (3 : Int32)) hx hb dM_file_26 (by decide) ?_
      refine lv_icmp_ne (pc := 27) (tgt := 34) hx hb dM_file_27 (by decide) (fun hc => ?_) (fun hc => ?_)
      · replace hf := jif hf hc
        refine lv_iconst (pc := 34) (v := (0 : Int32)) hx hb dM_file_34 (by decide) ?_
        exact wmM_file_J35 hA S hN hr hlk out σ x1 (0 : Int32) _ (lv_sub hl [0, 1] rfl) hw hf
      · replace hf := jit hf hc
        exact wmM_file_J30 hA S hN hr hlk out σ x1 _ (lv_sub hl [0, 1] rfl) hw hf
  · replace hf := jit hf hc
    refine lv_iconst (pc := 11) (v := (1 : Int32)) hx hb dM_file_11 (by decide) ?_
    refine lv_goto (pc := 12) (tgt := 35) hx hb dM_file_12 (by decide) ?_
    exact wmM_file_J35 hA S hN hr hlk out σ x1 (1 : Int32) _ (lv_sub hl [0, 1] rfl) hw hf
set_option maxHeartbeats 4000000 in
set_option maxRecDepth 100000 in
theorem kM_file (l : Launch) (D : va_G) (ca : Nat → ClassId) (ad : Nat → Nat) (sz : Nat) (σ : JS) (x1 : Int32) (out : Int32 × JS) (hf : mM_file σ x1 = some out) : Met l yM_file wsM_file rmM_file (jPre D (mT ca) (mC ca ad σ) (mN (va_A (mC ca ad σ) sz)) sz [.ref (ad 0), .int x1]) (jQi D (mT ca) (mC ca ad) (va_A (mC ca ad σ) sz) out.1 out.2) 0 0 (va_A (mC ca ad σ) sz) := by
  refine Met.ofW (cc := cM_file) (maxL := 2) (ret := some .int) (by decide) rfl ?_
  intro p e s m args below meth c s₁ B hml hv
  obtain ⟨rfl, hsz, hP, hK, hD0, hN⟩ := hv
  subst hsz
  have hl := lv_entry [.ref (ad 0), .int x1] (n := 2) (Nat.le_of_ble_eq_true rfl)
  rw [lg_entry_eq]
  generalize (lg_sl [.ref (ad 0), .int x1] ++ List.replicate (2 - (lg_sl [.ref (ad 0), .int x1]).length) Slot.unset).toArray = ls at hl ⊢
  exact bM_file (fun q h => Or.inr h) ⟨B.exec, B.bytes, hml, findClass_of_methodNamed B.named, fun w h => atoms_spec (ws := wsM_file) B.pre w (List.mem_cons_of_mem _ h)⟩ hN B.returns B.notSynchronized out σ x1 ls hl ⟨hP, hD0.self, va_S.rf, hK⟩ hf

def rmM_isLocked : Room := { frames := 1, cells := 0, slots := 0, locals := 24 }
def mM_isLocked_L28 (k : Int32 → Int32 → Option (Int32)) (σ : JS) (x1 : Int32) (x2 : Int32) (x3 : Int32) (x5 : Int32) (x6 : Int32) : Nat → Int32 → Int32 → Option (Int32)
  | 0, _, _ => none
  | n + 1, x4, x7 =>
    if (σ 100 2) < x7 then
    (k x4 x7)
    else
    (if x6 ≤ 0 then
    (k x4 x7)
    else
    (if x5 = x1 then
    (k x4 x7)
    else
    (if x4 = 0 then
    (jrd σ 5 121 x7 fun v3 =>
    if v3 = x5 then
    (jrd σ 6 121 x7 fun v6 =>
    if v6 = x2 then
    (jrd σ 7 121 x7 fun v9 =>
    if v9 = x3 then
    (mM_isLocked_L28 k σ x1 x2 x3 x5 x6 n (1 : Int32) (x7 + 1))
    else
    (mM_isLocked_L28 k σ x1 x2 x3 x5 x6 n (0 : Int32) (x7 + 1)))
    else
    (mM_isLocked_L28 k σ x1 x2 x3 x5 x6 n (0 : Int32) (x7 + 1)))
    else
    (mM_isLocked_L28 k σ x1 x2 x3 x5 x6 n (0 : Int32) (x7 + 1)))
    else
    (mM_isLocked_L28 k σ x1 x2 x3 x5 x6 n (1 : Int32) (x7 + 1)))))
def mM_isLocked_L6 (σ : JS) (x1 : Int32) (x2 : Int32) (x3 : Int32) : Nat → Int32 → Int32 → Option (Int32)
  | 0, _, _ => none
  | n + 1, x4, x5 =>
    if (4 : Int32) ≤ x5 then
    (jzc x4 (some x4))
    else
    (jbn (mM_cycleAt σ x5 (σ 100 2)) fun q1 =>
    mM_isLocked_L28 (fun z12 z13 =>
    mM_isLocked_L6 σ x1 x2 x3 n z12 (x5 + 1)) σ x1 x2 x3 x5 q1 999 x4 q1)
def mM_isLocked (σ : JS) (x1 : Int32) (x2 : Int32) (x3 : Int32) : Option (Int32) :=
  mM_isLocked_L6 σ x1 x2 x3 999 (0 : Int32) (0 : Int32)
set_option maxHeartbeats 4000000 in
set_option maxRecDepth 100000 in
theorem wmM_isLocked_L28 {p : Program} {l : Launch} {e : Env} {s : State} {m : MethodId} {args : Array Value} {below : List Frame} {meth : Method} {c : Code} {D : va_G} {ca : Nat → ClassId} {ad : Nat → Nat} {A : Nat → Prop} (hA : ∀ q, s.heap.size ≤ q → A q) (S : CallFix p m c cM_isLocked 8 s args jall RM) (hN : mN A s) (hr : meth.sig.returnType = some .boolean) (hlk : meth.locks = false) (out : Int32) (k : Int32 → Int32 → Option (Int32)) (σ : JS) (x1 : Int32) (x2 : Int32) (x3 : Int32) (x5 : Int32) (x6 : Int32) (hk : ∀ (x4 : Int32) (x7 : Int32) (ls : Array Slot) , lv_has ls 8 [(0, .ref (ad 0)), (1, .int x1), (2, .int x2), (3, .int x3), (4, .int x4), (5, .int x5), (6, .int x6), (7, .int x7)] → jH D (mT ca) (mC ca ad σ) A s.heap s.heap [] s → k x4 x7 = some out → W p l e (headSpec wsM_isLocked rmM_isLocked).room s m args below meth c s.heap [] 0 0 (MQ below (jSi out) args s 0 0 (fun _ => False)) (F0 m 100 ls [])) : ∀ (n : Nat) (x4 : Int32) (x7 : Int32) (ls : Array Slot) , lv_has ls 8 [(0, .ref (ad 0)), (1, .int x1), (2, .int x2), (3, .int x3), (4, .int x4), (5, .int x5), (6, .int x6), (7, .int x7)] → jH D (mT ca) (mC ca ad σ) A s.heap s.heap [] s → mM_isLocked_L28 k σ x1 x2 x3 x5 x6 n x4 x7 = some out → W p l e (headSpec wsM_isLocked rmM_isLocked).room s m args below meth c s.heap [] 0 0 (MQ below (jSi out) args s 0 0 (fun _ => False)) (F0 m 28 ls []) := by
  have hx := S.1
  have hb := S.2.1
  intro n
  induction n with
  | zero => intro x4 x7 ls hl hw hf; cases hf
  | succ n ih =>
    intro x4 x7 ls hl hw hf
    rw [mM_isLocked_L28] at hf
    refine lv_iload (pc := 28) hx hb dM_isLocked_28 (lv_at hl 7 rfl) ?_
    refine lv_aload_n (pc := 30) hx hb dM_isLocked_30 rfl (lv_at hl 0 rfl) ?_
    refine j_get (pc := 31) (v := .int (σ 100 2)) S hw inM 0 6 5 mg_0 rfl (by decide) k_601 rfl dM_isLocked_31 ?_
    refine lv_icmp_gt (pc := 34) (tgt := 100) hx hb dM_isLocked_34 (by decide) (fun hc => ?_) (fun hc => ?_)
    · replace hf := jit hf hc
      exact hk x4 x7 _ (lv_sub hl [0, 1, 2, 3, 4, 5, 6, 7] rfl) hw hf
    · replace hf := jif hf hc
      refine lv_iload (pc := 37) hx hb dM_isLocked_37 (lv_at hl 6 rfl) ?_
      refine lv_if_le (pc := 39) (tgt := 100) hx hb dM_isLocked_39 (by decide) (fun hc => ?_) (fun hc => ?_)
      · replace hf := jit hf hc
        exact hk x4 x7 _ (lv_sub hl [0, 1, 2, 3, 4, 5, 6, 7] rfl) hw hf
      · replace hf := jif hf hc
        refine lv_iload (pc := 42) hx hb dM_isLocked_42 (lv_at hl 5 rfl) ?_
        refine lv_iload_n (pc := 44) hx hb dM_isLocked_44 rfl (lv_at hl 1 rfl) ?_
        refine lv_icmp_eq (pc := 45) (tgt := 100) hx hb dM_isLocked_45 (by decide) (fun hc => ?_) (fun hc => ?_)
        · replace hf := jit hf hc
          exact hk x4 x7 _ (lv_sub hl [0, 1, 2, 3, 4, 5, 6, 7] rfl) hw hf
        · replace hf := jif hf hc
          refine lv_iload (pc := 48) hx hb dM_isLocked_48 (lv_at hl 4 rfl) ?_
          refine lv_if_ne (pc := 50) (tgt := 87) hx hb dM_isLocked_50 (by decide) (fun hc => ?_) (fun hc => ?_)
          · replace hf := jif hf hc
            refine lv_iconst (pc := 87) (v := (1 : Int32)) hx hb dM_isLocked_87 (by decide) ?_
            refine lv_goto (pc := 88) (tgt := 92) hx hb dM_isLocked_88 (by decide) ?_
            refine lv_istore (pc := 92) (lv' := [(4, .int (1 : Int32)), (0, .ref (ad 0)), (1, .int x1), (2, .int x2), (3, .int x3), (5, .int x5), (6, .int x6), (7, .int x7)]) hx hb dM_isLocked_92 hl (by decide) rfl (fun ls hl => ?_)
            refine lv_iinc (pc := 94) (v := (x7 + 1)) (k := 7) (lv' := [(7, .int (x7 + 1)), (4, .int (1 : Int32)), (0, .ref (ad 0)), (1, .int x1), (2, .int x2), (3, .int x3), (5, .int x5), (6, .int x6)]) hx hb dM_isLocked_94 hl rfl (j_inc _ (by decide)) (by decide) rfl (fun ls hl => ?_)
            refine lv_goto (pc := 97) (tgt := 28) hx hb dM_isLocked_97 (by decide) ?_
            exact ih (1 : Int32) (x7 + 1) _ (lv_sub hl [2, 3, 4, 5, 1, 6, 7, 0] rfl) hw hf
          · replace hf := jit hf hc
            refine lv_aload_n (pc := 53) hx hb dM_isLocked_53 rfl (lv_at hl 0 rfl) ?_
            refine j_get (pc := 54) (v := .ref (ad 5)) S hw inM 0 6 10 mg_0 rfl (by decide) k_606 rfl dM_isLocked_54 ?_
            refine lv_iload (pc := 57) hx hb dM_isLocked_57 (lv_at hl 7 rfl) ?_
            have hg := jrd_e hf; clear hf; obtain ⟨h4, v3, e5, hf⟩ := hg
            refine j_iald (pc := 59) S hw 5 4 mg_5 mt_5 h4 e5 dM_isLocked_59 ?_
            refine lv_iload (pc := 60) hx hb dM_isLocked_60 (lv_at hl 5 rfl) ?_
            refine lv_icmp_ne (pc := 62) (tgt := 91) hx hb dM_isLocked_62 (by decide) (fun hc => ?_) (fun hc => ?_)
            · replace hf := jif hf hc
              refine lv_iconst (pc := 91) (v := (0 : Int32)) hx hb dM_isLocked_91 (by decide) ?_
              refine lv_istore (pc := 92) (lv' := [(4, .int (0 : Int32)), (0, .ref (ad 0)), (1, .int x1), (2, .int x2), (3, .int x3), (5, .int x5), (6, .int x6), (7, .int x7)]) hx hb dM_isLocked_92 hl (by decide) rfl (fun ls hl => ?_)
              refine lv_iinc (pc := 94) (v := (x7 + 1)) (k := 7) (lv' := [(7, .int (x7 + 1)), (4, .int (0 : Int32)), (0, .ref (ad 0)), (1, .int x1), (2, .int x2), (3, .int x3), (5, .int x5), (6, .int x6)]) hx hb dM_isLocked_94 hl rfl (j_inc _ (by decide)) (by decide) rfl (fun ls hl => ?_)
              refine lv_goto (pc := 97) (tgt := 28) hx hb dM_isLocked_97 (by decide) ?_
              exact ih (0 : Int32) (x7 + 1) _ (lv_sub hl [2, 3, 4, 5, 1, 6, 7, 0] rfl) hw hf
            · replace hf := jit hf hc
              refine lv_aload_n (pc := 65) hx hb dM_isLocked_65 rfl (lv_at hl 0 rfl) ?_
              refine j_get (pc := 66) (v := .ref (ad 6)) S hw inM 0 6 11 mg_0 rfl (by decide) k_607 rfl dM_isLocked_66 ?_
              refine lv_iload (pc := 69) hx hb dM_isLocked_69 (lv_at hl 7 rfl) ?_
              have hg := jrd_e hf; clear hf; obtain ⟨h7, v6, e8, hf⟩ := hg
              refine j_iald (pc := 71) S hw 6 5 mg_6 mt_6 h7 e8 dM_isLocked_71 ?_
              refine lv_iload_n (pc := 72) hx hb dM_isLocked_72 rfl (lv_at hl 2 rfl) ?_
              refine lv_icmp_ne (pc := 73) (tgt := 91) hx hb dM_isLocked_73 (by decide) (fun hc => ?_) (fun hc => ?_)
              · replace hf := jif hf hc
                refine lv_iconst (pc := 91) (v := (0 : Int32)) hx hb dM_isLocked_91 (by decide) ?_
                refine lv_istore (pc := 92) (lv' := [(4, .int (0 : Int32)), (0, .ref (ad 0)), (1, .int x1), (2, .int x2), (3, .int x3), (5, .int x5), (6, .int x6), (7, .int x7)]) hx hb dM_isLocked_92 hl (by decide) rfl (fun ls hl => ?_)
                refine lv_iinc (pc := 94) (v := (x7 + 1)) (k := 7) (lv' := [(7, .int (x7 + 1)), (4, .int (0 : Int32)), (0, .ref (ad 0)), (1, .int x1), (2, .int x2), (3, .int x3), (5, .int x5), (6, .int x6)]) hx hb dM_isLocked_94 hl rfl (j_inc _ (by decide)) (by decide) rfl (fun ls hl => ?_)
                refine lv_goto (pc := 97) (tgt := 28) hx hb dM_isLocked_97 (by decide) ?_
                exact ih (0 : Int32) (x7 + 1) _ (lv_sub hl [2, 3, 4, 5, 1, 6, 7, 0] rfl) hw hf
              · replace hf := jit hf hc
                refine lv_aload_n (pc := 76) hx hb dM_isLocked_76 rfl (lv_at hl 0 rfl) ?_
                refine j_get (pc := 77) (v := .ref (ad 7)) S hw inM 0 6 12 mg_0 rfl (by decide) k_608 rfl dM_isLocked_77 ?_
                refine lv_iload (pc := 80) hx hb dM_isLocked_80 (lv_at hl 7 rfl) ?_
                have hg := jrd_e hf; clear hf; obtain ⟨h10, v9, e11, hf⟩ := hg
                refine j_iald (pc := 82) S hw 7 6 mg_7 mt_7 h10 e11 dM_isLocked_82 ?_
                refine lv_iload_n (pc := 83) hx hb dM_isLocked_83 rfl (lv_at hl 3 rfl) ?_
                refine lv_icmp_ne (pc := 84) (tgt := 91) hx hb dM_isLocked_84 (by decide) (fun hc => ?_) (fun hc => ?_)
                · replace hf := jif hf hc
                  refine lv_iconst (pc := 91) (v := (0 : Int32)) hx hb dM_isLocked_91 (by decide) ?_
                  refine lv_istore (pc := 92) (lv' := [(4, .int (0 : Int32)), (0, .ref (ad 0)), (1, .int x1), (2, .int x2), (3, .int x3), (5, .int x5), (6, .int x6), (7, .int x7)]) hx hb dM_isLocked_92 hl (by decide) rfl (fun ls hl => ?_)
                  refine lv_iinc (pc := 94) (v := (x7 + 1)) (k := 7) (lv' := [(7, .int (x7 + 1)), (4, .int (0 : Int32)), (0, .ref (ad 0)), (1, .int x1), (2, .int x2), (3, .int x3), (5, .int x5), (6, .int x6)]) hx hb dM_isLocked_94 hl rfl (j_inc _ (by decide)) (by decide) rfl (fun ls hl => ?_)
                  refine lv_goto (pc := 97) (tgt := 28) hx hb dM_isLocked_97 (by decide) ?_
                  exact ih (0 : Int32) (x7 + 1) _ (lv_sub hl [2, 3, 4, 5, 1, 6, 7, 0] rfl) hw hf
                · replace hf := jit hf hc
                  refine lv_iconst (pc := 87) (v := (1 : Int32)) hx hb dM_isLocked_87 (by decide) ?_
                  refine lv_goto (pc := 88) (tgt := 92) hx hb dM_isLocked_88 (by decide) ?_
                  refine lv_istore (pc := 92) (lv' := [(4, .int (1 : Int32)), (0, .ref (ad 0)), (1, .int x1), (2, .int x2), (3, .int x3), (5, .int x5), (6, .int x6), (7, .int x7)]) hx hb dM_isLocked_92 hl (by decide) rfl (fun ls hl => ?_)
                  refine lv_iinc (pc := 94) (v := (x7 + 1)) (k := 7) (lv' := [(7, .int (x7 + 1)), (4, .int (1 : Int32)), (0, .ref (ad 0)), (1, .int x1), (2, .int x2), (3, .int x3), (5, .int x5), (6, .int x6)]) hx hb dM_isLocked_94 hl rfl (j_inc _ (by decide)) (by decide) rfl (fun ls hl => ?_)
                  refine lv_goto (pc := 97) (tgt := 28) hx hb dM_isLocked_97 (by decide) ?_
                  exact ih (1 : Int32) (x7 + 1) _ (lv_sub hl [2, 3, 4, 5, 1, 6, 7, 0] rfl) hw hf
set_option maxHeartbeats 4000000 in
set_option maxRecDepth 100000 in
theorem wmM_isLocked_L6 {p : Program} {l : Launch} {e : Env} {s : State} {m : MethodId} {args : Array Value} {below : List Frame} {meth : Method} {c : Code} {D : va_G} {ca : Nat → ClassId} {ad : Nat → Nat} {A : Nat → Prop} (hA : ∀ q, s.heap.size ≤ q → A q) (S : CallFix p m c cM_isLocked 8 s args jall RM) (hN : mN A s) (hr : meth.sig.returnType = some .boolean) (hlk : meth.locks = false) (out : Int32) (σ : JS) (x1 : Int32) (x2 : Int32) (x3 : Int32) : ∀ (n : Nat) (x4 : Int32) (x5 : Int32) (ls : Array Slot) , lv_has ls 8 [(0, .ref (ad 0)), (1, .int x1), (2, .int x2), (3, .int x3), (4, .int x4), (5, .int x5)] → jH D (mT ca) (mC ca ad σ) A s.heap s.heap [] s → mM_isLocked_L6 σ x1 x2 x3 n x4 x5 = some out → W p l e (headSpec wsM_isLocked rmM_isLocked).room s m args below meth c s.heap [] 0 0 (MQ below (jSi out) args s 0 0 (fun _ => False)) (F0 m 6 ls []) := by
  have hx := S.1
  have hb := S.2.1
  intro n
  induction n with
  | zero => intro x4 x5 ls hl hw hf; cases hf
  | succ n ih =>
    intro x4 x5 ls hl hw hf
    rw [mM_isLocked_L6] at hf
    refine lv_iload (pc := 6) hx hb dM_isLocked_6 (lv_at hl 5 rfl) ?_
    refine lv_iconst (pc := 8) (v := (4 : Int32)) hx hb dM_isLocked_8 (by decide) ?_
    refine lv_icmp_ge (pc := 9) (tgt := 106) hx hb dM_isLocked_9 (by decide) (fun hc => ?_) (fun hc => ?_)
    · replace hf := jit hf hc
      refine lv_iload (pc := 106) hx hb dM_isLocked_106 (lv_at hl 4 rfl) ?_
      have hg := jzc_e hf; clear hf; obtain ⟨hz9, hf⟩ := hg
      obtain rfl := jsm hf
      exact j_zpr (pc := 108) S hr hlk hz9 dM_isLocked_108
    · replace hf := jif hf hc
      refine lv_aload_n (pc := 12) hx hb dM_isLocked_12 rfl (lv_at hl 0 rfl) ?_
      refine lv_iload (pc := 13) hx hb dM_isLocked_13 (lv_at hl 5 rfl) ?_
      refine lv_aload_n (pc := 15) hx hb dM_isLocked_15 rfl (lv_at hl 0 rfl) ?_
      refine j_get (pc := 16) (v := .int (σ 100 2)) S hw inM 0 6 5 mg_0 rfl (by decide) k_601 rfl dM_isLocked_16 ?_
      have hg := jbn_e hf; clear hf; obtain ⟨q1, h2, hf⟩ := hg
      refine j_cpi (pc := 19) (v := q1) (va_runV (As := [.int x5, .int (σ 100 2)]) (rest := []) S (kM_cycleAt l D ca ad _ σ x5 (σ 100 2) q1 h2) (cwV 2 S.2.2.2.2 (jgV k_703 k_705 ks_18 k_7 k_706) rfl rfl rfl (by decide +kernel) ⟨Nat.le_of_ble_eq_true rfl, Nat.le_of_ble_eq_true rfl⟩) (j_preV (As := [.int x5, .int (σ 100 2)]) hw mN_b (mN_to hN hw hA) rfl mg_0) rfl rfl hl.1 rfl (lv_room (Nat.le_of_ble_eq_true rfl)) dM_isLocked_19 ⟨Nat.le_of_ble_eq_true rfl, Nat.le_of_ble_eq_true rfl⟩) ?_
      refine lv_istore (pc := 22) (lv' := [(6, .int q1), (0, .ref (ad 0)), (1, .int x1), (2, .int x2), (3, .int x3), (4, .int x4), (5, .int x5)]) hx hb dM_isLocked_22 hl (by decide) rfl (fun ls hl => ?_)
      refine lv_iload (pc := 24) hx hb dM_isLocked_24 (lv_at hl 0 rfl) ?_
      refine lv_istore (pc := 26) (lv' := [(7, .int q1), (6, .int q1), (0, .ref (ad 0)), (1, .int x1), (2, .int x2), (3, .int x3), (4, .int x4), (5, .int x5)]) hx hb dM_isLocked_26 hl (by decide) rfl (fun ls hl => ?_)
      refine wmM_isLocked_L28 hA S hN hr hlk out _ σ x1 x2 x3 x5 q1 (fun z12 z13 ls hl hw hf => ?_) 999 x4 q1 _ (lv_sub hl [2, 3, 4, 5, 6, 7, 1, 0] rfl) hw hf
      try dsimp only at hf
      refine lv_iinc (pc := 100) (v := (x5 + 1)) (k := 5) (lv' := [(5, .int (x5 + 1)), (0, .ref (ad 0)), (1, .int x1), (2, .int x2), (3, .int x3), (4, .int z12), (6, .int q1), (7, .int z13)]) hx hb dM_isLocked_100 hl rfl (j_inc _ (by decide)) (by decide) rfl (fun ls hl => ?_)
      refine lv_goto (pc := 103) (tgt := 6) hx hb dM_isLocked_103 (by decide) ?_
      exact ih z12 (x5 + 1) _ (lv_sub hl [1, 2, 3, 4, 5, 0] rfl) hw hf
set_option maxHeartbeats 4000000 in
set_option maxRecDepth 100000 in
theorem bM_isLocked {p : Program} {l : Launch} {e : Env} {s : State} {m : MethodId} {args : Array Value} {below : List Frame} {meth : Method} {c : Code} {D : va_G} {ca : Nat → ClassId} {ad : Nat → Nat} {A : Nat → Prop} (hA : ∀ q, s.heap.size ≤ q → A q) (S : CallFix p m c cM_isLocked 8 s args jall RM) (hN : mN A s) (hr : meth.sig.returnType = some .boolean) (hlk : meth.locks = false) (out : Int32) (σ : JS) (x1 : Int32) (x2 : Int32) (x3 : Int32) (ls : Array Slot) (hl : lv_has ls 8 [(0, .ref (ad 0)), (1, .int x1), (2, .int x2), (3, .int x3)]) (hw : jH D (mT ca) (mC ca ad σ) A s.heap s.heap [] s) (hf : mM_isLocked σ x1 x2 x3 = some out) : W p l e (headSpec wsM_isLocked rmM_isLocked).room s m args below meth c s.heap [] 0 0 (MQ below (jSi out) args s 0 0 (fun _ => False)) (F0 m 0 ls []) := by
  have hx := S.1
  have hb := S.2.1
  unfold mM_isLocked at hf
  refine lv_iconst (pc := 0) (v := (0 : Int32)) hx hb dM_isLocked_0 (by decide) ?_
  refine lv_istore (pc := 1) (lv' := [(4, .int (0 : Int32)), (0, .ref (ad 0)), (1, .int x1), (2, .int x2), (3, .int x3)]) hx hb dM_isLocked_1 hl (by decide) rfl (fun ls hl => ?_)
  refine lv_iconst (pc := 3) (v := (0 : Int32)) hx hb dM_isLocked_3 (by decide) ?_
  refine lv_istore (pc := 4) (lv' := [(5, .int (0 : Int32)), (4, .int (0 : Int32)), (0, .ref (ad 0)), (1, .int x1), (2, .int x2), (3, .int x3)]) hx hb dM_isLocked_4 hl (by decide) rfl (fun ls hl => ?_)
  exact wmM_isLocked_L6 hA S hN hr hlk out σ x1 x2 x3 999 (0 : Int32) (0 : Int32) _ (lv_sub hl [2, 3, 4, 5, 1, 0] rfl) hw hf
set_option maxHeartbeats 4000000 in
set_option maxRecDepth 100000 in
theorem kM_isLocked (l : Launch) (D : va_G) (ca : Nat → ClassId) (ad : Nat → Nat) (sz : Nat) (σ : JS) (x1 : Int32) (x2 : Int32) (x3 : Int32) (out : Int32) (hf : mM_isLocked σ x1 x2 x3 = some out) : Met l yM_isLocked wsM_isLocked rmM_isLocked (jPre D (mT ca) (mC ca ad σ) (mN (va_A (mC ca ad σ) sz)) sz [.ref (ad 0), .int x1, .int x2, .int x3]) (jSi out) 0 0 (fun _ => False) := by
  refine Met.ofW (cc := cM_isLocked) (maxL := 8) (ret := some .boolean) (by decide) rfl ?_
  intro p e s m args below meth c s₁ B hml hv
  obtain ⟨rfl, hsz, hP, hK, hD0, hN⟩ := hv
  subst hsz
  have hl := lv_entry [.ref (ad 0), .int x1, .int x2, .int x3] (n := 8) (Nat.le_of_ble_eq_true rfl)
  rw [lg_entry_eq]
  generalize (lg_sl [.ref (ad 0), .int x1, .int x2, .int x3] ++ List.replicate (8 - (lg_sl [.ref (ad 0), .int x1, .int x2, .int x3]).length) Slot.unset).toArray = ls at hl ⊢
  exact bM_isLocked (fun q h => Or.inr h) ⟨B.exec, B.bytes, hml, findClass_of_methodNamed B.named, fun w h => atoms_spec (ws := wsM_isLocked) B.pre w (List.mem_cons_of_mem _ h)⟩ hN B.returns B.notSynchronized out σ x1 x2 x3 ls hl ⟨hP, hD0.self, va_S.rf, hK⟩ hf

