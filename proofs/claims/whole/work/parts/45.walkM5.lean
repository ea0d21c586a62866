def rmM_cut : Room := { frames := 1, cells := 0, slots := 0, locals := 22 }
def mM_cut_L43 (k : JS → Int32 → Option (Int32 × JS)) (x1 : Int32) : Nat → JS → Int32 → Option (Int32 × JS)
  | 0, _, _ => none
  | n + 1, σ, x2 =>
    if x1 ≤ x2 then
    (k σ x2)
    else
    (jbn (mM_landFirst σ ) fun q5 =>
    mM_cut_L43 k x1 n q5 (x2 + 1))
def mM_cut_J29 (σ : JS) (x1 : Int32) (y0 : Int32) : Option (Int32 × JS) :=
  jst (jw2 σ 100 0 y0) fun σ3 =>
  if (σ3 100 0) ≤ 0 then
  (mM_cut_L43 (fun σ7 z8 =>
  jst (jw2 σ7 100 6 (0 : Int32)) fun σ9 =>
  jst (jw2 σ9 100 5 (1 : Int32)) fun σ11 =>
  some ((σ7 100 6), σ11)) x1 999 σ3 (0 : Int32))
  else
  (some ((0 : Int32), σ3))
def mM_cut (σ : JS) (x1 : Int32) : Option (Int32 × JS) :=
  jbn (mM_within σ x1 (0 : Int32) (σ 100 6)) fun q1 =>
  if q1 = 0 then
  (mM_cut_J29 σ x1 (1 : Int32))
  else
  (if (σ 100 5) = 0 then
  (mM_cut_J29 σ x1 (0 : Int32))
  else
  (mM_cut_J29 σ x1 (2 : Int32)))
set_option maxHeartbeats 4000000 in
set_option maxRecDepth 100000 in
theorem wmM_cut_L43g {p : Program} {l : Launch} {e : Env} {s : State} {m : MethodId} {args : Array Value} {below : List Frame} {meth : Method} {c : Code} {D : va_G} {ca : Nat → ClassId} {ad : Nat → Nat} {A : Nat → Prop} (hA : ∀ q, s.heap.size ≤ q → A q) (S : CallFix p m c cM_cut 3 s args jall RM) (hN : mN A s) (hr : meth.sig.returnType = some .int) (hlk : meth.locks = false) (out : Int32 × JS) (k : JS → Int32 → Option (Int32 × JS)) (x1 : Int32) (hk : ∀ (σ : JS) (x2 : Int32) (ls : Array Slot) (H : Heap) (locs : List Loc), lv_has ls 3 [(0, .ref (ad 0)), (1, .int x1), (2, .int x2)] → jH D (mT ca) (mC ca ad σ) A s.heap H locs s → k σ x2 = some out → W p l e (headSpec wsM_cut rmM_cut).room s m args below meth c H locs 0 0 (MQ below (jQi D (mT ca) (mC ca ad) A out.1 out.2) args s 0 0 A) (F0 m 58 ls [])) : ∀ (n : Nat) (σ : JS) (x2 : Int32) (ls : Array Slot) (H : Heap) (locs : List Loc), lv_has ls 3 [(0, .ref (ad 0)), (1, .int x1), (2, .int x2)] → jH D (mT ca) (mC ca ad σ) A s.heap H locs s → mM_cut_L43 k x1 n σ x2 = some out → W p l e (headSpec wsM_cut rmM_cut).room s m args below meth c H locs 0 0 (MQ below (jQi D (mT ca) (mC ca ad) A out.1 out.2) args s 0 0 A) (F0 m 43 ls []) := by
  have hx := S.1
  have hb := S.2.1
  intro n
  induction n with
  | zero => intro σ x2 ls H locs hl hw hf; cases hf
  | succ n ih =>
    intro σ x2 ls H locs hl hw hf
    rw [mM_cut_L43] at hf
    refine lv_iload_n (pc := 43) hx hb dM_cut_43 rfl (lv_at hl 2 rfl) ?_
    refine lv_iload_n (pc := 44) hx hb dM_cut_44 rfl (lv_at hl 1 rfl) ?_
    refine lv_icmp_ge (pc := 45) (tgt := 58) hx hb dM_cut_45 (by decide) (fun hc => ?_) (fun hc => ?_)
    · replace hf := jit hf hc
      exact hk σ x2 _ _ _ (lv_sub hl [0, 1, 2] rfl) hw hf
    · replace hf := jif hf hc
      refine lv_aload_n (pc := 48) hx hb dM_cut_48 rfl (lv_at hl 0 rfl) ?_
      have hg := jbn_e hf; clear hf; obtain ⟨q5, h6, hf⟩ := hg
      refine j_callv (pc := 49) (C := mC ca ad) (σ' := q5) hw hA (va_runV (As := []) (rest := []) S (kM_landFirst l D ca ad _ σ  q5 h6) (cwV 0 S.2.2.2.2 (jgV k_731 k_733 ks_22 k_7 k_734) rfl rfl rfl (by decide +kernel) ⟨Nat.le_of_ble_eq_true rfl, Nat.le_of_ble_eq_true rfl⟩) (j_preV (As := []) hw mN_b (mN_to hN hw hA) rfl mg_0) rfl rfl hl.1 rfl (lv_room (Nat.le_of_ble_eq_true rfl)) dM_cut_49 ⟨Nat.le_of_ble_eq_true rfl, Nat.le_of_ble_eq_true rfl⟩) (fun H locs hw => ?_)
      refine lv_iinc (pc := 52) (v := (x2 + 1)) (k := 2) (lv' := [(2, .int (x2 + 1)), (0, .ref (ad 0)), (1, .int x1)]) hx hb dM_cut_52 hl rfl (j_inc _ (by decide)) (by decide) rfl (fun ls hl => ?_)
      refine lv_goto (pc := 55) (tgt := 43) hx hb dM_cut_55 (by decide) ?_
      exact ih q5 (x2 + 1) _ _ _ (lv_sub hl [1, 2, 0] rfl) hw hf
set_option maxHeartbeats 4000000 in
set_option maxRecDepth 100000 in
theorem wmM_cut_J29 {p : Program} {l : Launch} {e : Env} {s : State} {m : MethodId} {args : Array Value} {below : List Frame} {meth : Method} {c : Code} {D : va_G} {ca : Nat → ClassId} {ad : Nat → Nat} {A : Nat → Prop} (hA : ∀ q, s.heap.size ≤ q → A q) (S : CallFix p m c cM_cut 3 s args jall RM) (hN : mN A s) (hr : meth.sig.returnType = some .int) (hlk : meth.locks = false) (out : Int32 × JS) (σ : JS) (x1 : Int32) (y0 : Int32) (ls : Array Slot) (hl : lv_has ls 3 [(0, .ref (ad 0)), (1, .int x1)]) (hw : jH D (mT ca) (mC ca ad σ) A s.heap s.heap [] s) (hf : mM_cut_J29 σ x1 y0 = some out) : W p l e (headSpec wsM_cut rmM_cut).room s m args below meth c s.heap [] 0 0 (MQ below (jQi D (mT ca) (mC ca ad) A out.1 out.2) args s 0 0 A) (F0 m 29 ls [.int y0, .ref (ad 0)]) := by
  have hx := S.1
  have hb := S.2.1
  unfold mM_cut_J29 at hf
  have hg := jst_e hf; clear hf; obtain ⟨σ3, e4, hf⟩ := hg
  refine j_put (pc := 29) (v := .int y0) (ws' := mC ca ad σ3) S hw inM tyM tyM_ok nmM 0 6 0 mg_0 rfl (by decide) k_596 rfl rfl rfl (Nat.le_of_ble_eq_true rfl) (by rw [e4]; exact mp_0) dM_cut_29 (fun H locs hw => ?_)
  refine lv_aload_n (pc := 32) hx hb dM_cut_32 rfl (lv_at hl 0 rfl) ?_
  refine j_get (pc := 33) (v := .int (σ3 100 0)) S hw inM 0 6 0 mg_0 rfl (by decide) k_596 rfl dM_cut_33 ?_
  refine lv_if_le (pc := 36) (tgt := 41) hx hb dM_cut_36 (by decide) (fun hc => ?_) (fun hc => ?_)
  · replace hf := jit hf hc
    refine lv_iconst (pc := 41) (v := (0 : Int32)) hx hb dM_cut_41 (by decide) ?_
    refine lv_istore_n (pc := 42) (lv' := [(2, .int (0 : Int32)), (0, .ref (ad 0)), (1, .int x1)]) hx hb dM_cut_42 rfl hl (by decide) rfl (fun ls hl => ?_)
    refine wmM_cut_L43g hA S hN hr hlk out _ x1 (fun σ7 z8 ls H locs hl hw hf => ?_) 999 σ3 (0 : Int32) _ _ _ (lv_sub hl [1, 2, 0] rfl) hw hf
    try dsimp only at hf
    refine lv_aload_n (pc := 58) hx hb dM_cut_58 rfl (lv_at hl 0 rfl) ?_
    refine j_get (pc := 59) (v := .int (σ7 100 6)) S hw inM 0 6 16 mg_0 rfl (by decide) k_612 rfl dM_cut_59 ?_
    refine lv_istore_n (pc := 62) (lv' := [(2, .int (σ7 100 6)), (0, .ref (ad 0)), (1, .int x1)]) hx hb dM_cut_62 rfl hl (by decide) rfl (fun ls hl => ?_)
    refine lv_aload_n (pc := 63) hx hb dM_cut_63 rfl (lv_at hl 1 rfl) ?_
    refine lv_iconst (pc := 64) (v := (0 : Int32)) hx hb dM_cut_64 (by decide) ?_
    have hg := jst_e hf; clear hf; obtain ⟨σ9, e10, hf⟩ := hg
    refine j_put (pc := 65) (v := .int (0 : Int32)) (ws' := mC ca ad σ9) S hw inM tyM tyM_ok nmM 0 6 16 mg_0 rfl (by decide) k_612 rfl rfl rfl (Nat.le_of_ble_eq_true rfl) (by rw [e10]; exact mp_6) dM_cut_65 (fun H locs hw => ?_)
    refine lv_aload_n (pc := 68) hx hb dM_cut_68 rfl (lv_at hl 1 rfl) ?_
    refine lv_iconst (pc := 69) (v := (1 : Int32)) hx hb dM_cut_69 (by decide) ?_
    have hg := jst_e hf; clear hf; obtain ⟨σ11, e12, hf⟩ := hg
    refine j_put (pc := 70) (v := .int (1 : Int32)) (ws' := mC ca ad σ11) S hw inM tyM tyM_ok nmM 0 6 8 mg_0 rfl (by decide) k_604 rfl rfl rfl (Nat.le_of_ble_eq_true rfl) (by rw [e12]; exact mp_5) dM_cut_70 (fun H locs hw => ?_)
    refine lv_iload_n (pc := 73) hx hb dM_cut_73 rfl (lv_at hl 0 rfl) ?_
    obtain rfl := jsm hf
    exact j_iret (pc := 74) S hw hr hlk dM_cut_74
  · replace hf := jif hf hc
    refine lv_iconst (pc := 39) (v := (0 : Int32)) hx hb dM_cut_39 (by decide) ?_
    obtain rfl := jsm hf
    exact j_iret (pc := 40) S hw hr hlk dM_cut_40
set_option maxHeartbeats 4000000 in
set_option maxRecDepth 100000 in
theorem bM_cut {p : Program} {l : Launch} {e : Env} {s : State} {m : MethodId} {args : Array Value} {below : List Frame} {meth : Method} {c : Code} {D : va_G} {ca : Nat → ClassId} {ad : Nat → Nat} {A : Nat → Prop} (hA : ∀ q, s.heap.size ≤ q → A q) (S : CallFix p m c cM_cut 3 s args jall RM) (hN : mN A s) (hr : meth.sig.returnType = some .int) (hlk : meth.locks = false) (out : Int32 × JS) (σ : JS) (x1 : Int32) (ls : Array Slot) (hl : lv_has ls 3 [(0, .ref (ad 0)), (1, .int x1)]) (hw : jH D (mT ca) (mC ca ad σ) A s.heap s.heap [] s) (hf : mM_cut σ x1 = some out) : W p l e (headSpec wsM_cut rmM_cut).room s m args below meth c s.heap [] 0 0 (MQ below (jQi D (mT ca) (mC ca ad) A out.1 out.2) args s 0 0 A) (F0 m 0 ls []) := by
  have hx := S.1
  have hb := S.2.1
  unfold mM_cut at hf
  refine lv_aload_n (pc := 0) hx hb dM_cut_0 rfl (lv_at hl 0 rfl) ?_
  refine lv_iload_n (pc := 1) hx hb dM_cut_1 rfl (lv_at hl 1 rfl) ?_
  refine lv_iconst (pc := 2) (v := (0 : Int32)) hx hb dM_cut_2 (by decide) ?_
  refine lv_aload_n (pc := 3) hx hb dM_cut_3 rfl (lv_at hl 0 rfl) ?_
  refine j_get (pc := 4) (v := .int (σ 100 6)) S hw inM 0 6 16 mg_0 rfl (by decide) k_612 rfl dM_cut_4 ?_
  have hg := jbn_e hf; clear hf; obtain ⟨q1, h2, hf⟩ := hg
  refine j_cpi (pc := 7) (v := q1) (va_runS (As := [.int x1, .int (0 : Int32), .int (σ 100 6)]) (rest := [.ref (ad 0)]) S (kM_within l D ca ad _ σ x1 (0 : Int32) (σ 100 6) q1 h2) (cwS 3 S.2.2.2.2 (jgS k_680 k_681 k_7 k_682) rfl rfl rfl (by decide +kernel) ⟨Nat.le_of_ble_eq_true rfl, Nat.le_of_ble_eq_true rfl⟩) (j_preS hw mN_b (mN_to hN hw hA)) rfl rfl hl.1 rfl (lv_room (Nat.le_of_ble_eq_true rfl)) dM_cut_7 ⟨Nat.le_of_ble_eq_true rfl, Nat.le_of_ble_eq_true rfl⟩) ?_
  refine lv_if_ne (pc := 10) (tgt := 17) hx hb dM_cut_10 (by decide) (fun hc => ?_) (fun hc => ?_)
  · replace hf := jif hf hc
    refine lv_aload_n (pc := 17) hx hb dM_cut_17 rfl (lv_at hl 0 rfl) ?_
    refine j_get (pc := 18) (v := .int (σ 100 5)) S hw inM 0 6 8 mg_0 rfl (by decide) k_604 rfl dM_cut_18 ?_
    refine lv_if_eq (pc := 21) (tgt := 28) hx hb dM_cut_21 (by decide) (fun hc => ?_) (fun hc => ?_)
    · replace hf := jit hf hc
      refine lv_iconst (pc := 28) (v := (0 : Int32)) hx hb dM_cut_28 (by decide) ?_
      exact wmM_cut_J29 hA S hN hr hlk out σ x1 (0 : Int32) _ (lv_sub hl [0, 1] rfl) hw hf
    · replace hf := jif hf hc
      refine lv_iconst (pc := 24) (v := (2 : Int32)) hx hb dM_cut_24 (by decide) ?_
      refine lv_goto (pc := 25) (tgt := 29) hx hb dM_cut_25 (by decide) ?_
      exact wmM_cut_J29 hA S hN hr hlk out σ x1 (2 : Int32) _ (lv_sub hl [0, 1] rfl) hw hf
  · replace hf := jit hf hc
    refine lv_iconst (pc := 13) (v := (1 : Int32)) hx hb dM_cut_13 (by decide) ?_
    refine lv_goto (pc := 14) (tgt := 29) hx hb dM_cut_14 (by decide) ?_
    exact wmM_cut_J29 hA S hN hr hlk out σ x1 (1 : Int32) _ (lv_sub hl [0, 1] rfl) hw hf
set_option maxHeartbeats 4000000 in
set_option maxRecDepth 100000 in
theorem kM_cut (l : Launch) (D : va_G) (ca : Nat → ClassId) (ad : Nat → Nat) (sz : Nat) (σ : JS) (x1 : Int32) (out : Int32 × JS) (hf : mM_cut σ x1 = some out) : Met l yM_cut wsM_cut rmM_cut (jPre D (mT ca) (mC ca ad σ) (mN (va_A (mC ca ad σ) sz)) sz [.ref (ad 0), .int x1]) (jQi D (mT ca) (mC ca ad) (va_A (mC ca ad σ) sz) out.1 out.2) 0 0 (va_A (mC ca ad σ) sz) := by
  refine Met.ofW (cc := cM_cut) (maxL := 3) (ret := some .int) (by decide) rfl ?_
  intro p e s m args below meth c s₁ B hml hv
  obtain ⟨rfl, hsz, hP, hK, hD0, hN⟩ := hv
  subst hsz
  have hl := lv_entry [.ref (ad 0), .int x1] (n := 3) (Nat.le_of_ble_eq_true rfl)
  rw [lg_entry_eq]
  generalize (lg_sl [.ref (ad 0), .int x1] ++ List.replicate (3 - (lg_sl [.ref (ad 0), .int x1]).length) Slot.unset).toArray = ls at hl ⊢
  exact bM_cut (fun q h => Or.inr h) ⟨B.exec, B.bytes, hml, findClass_of_methodNamed B.named, fun w h => atoms_spec (ws := wsM_cut) B.pre w (List.mem_cons_of_mem _ h)⟩ hN B.returns B.notSynchronized out σ x1 ls hl ⟨hP, hD0.self, va_S.rf, hK⟩ hf

def rmM_start : Room := { frames := 4, cells := 0, slots := 0, locals := 97 }
def mM_start_L42 (k : JS → Int32 → Option (Int32 × JS)) (x1 : Int32) : Nat → JS → Int32 → Option (Int32 × JS)
  | 0, _, _ => none
  | n + 1, σ, x2 =>
    if (8 : Int32) ≤ x2 then
    (k σ x2)
    else
    (jbn (mM_valueAt σ x1 x2 (σ 100 2)) fun q5 =>
    jwr σ 10 24 (((8 : Int32) * x1) + x2) q5 fun σ7 =>
    mM_start_L42 k x1 n σ7 (x2 + 1))
def mM_start_L32 (k : JS → Int32 → Option (Int32 × JS))  : Nat → JS → Int32 → Option (Int32 × JS)
  | 0, _, _ => none
  | n + 1, σ, x1 =>
    if (σ 100 1) ≤ x1 then
    (k σ x1)
    else
    (mM_start_L42 (fun σ10 z11 =>
    mM_start_L32 k  n σ10 (x1 + 1)) x1 999 σ (0 : Int32))
def mM_start_L83  : Nat → JS → Int32 → Option (Int32 × JS)
  | 0, _, _ => none
  | n + 1, σ, x1 =>
    if (3 : Int32) ≤ x1 then
    (some ((σ 100 2), σ))
    else
    (jbn (mM_cycleAt σ x1 (σ 100 2)) fun q14 =>
    if q14 ≤ 0 then
    (mM_start_L83  n σ (x1 + 1))
    else
    (jbn (mM_undo σ x1) fun q16 =>
    mM_start_L83  n q16 (x1 + 1)))
def mM_start_J13 (σ : JS) (y0 : Int32) : Option (Int32 × JS) :=
  jst (jw2 σ 100 0 y0) fun σ1 =>
  if (σ1 100 0) ≤ 0 then
  (jst (jw2 σ1 100 5 (0 : Int32)) fun σ3 =>
  mM_start_L32 (fun σ12 z13 =>
  mM_start_L83  999 σ12 (0 : Int32))  999 σ3 (0 : Int32))
  else
  (some ((0 : Int32), σ1))
def mM_start (σ : JS)  : Option (Int32 × JS) :=
  if (σ 100 5) = 0 then
  (mM_start_J13 σ (1 : Int32))
  else
  (mM_start_J13 σ (0 : Int32))
set_option maxHeartbeats 4000000 in
set_option maxRecDepth 100000 in
theorem wmM_start_L42g {p : Program} {l : Launch} {e : Env} {s : State} {m : MethodId} {args : Array Value} {below : List Frame} {meth : Method} {c : Code} {D : va_G} {ca : Nat → ClassId} {ad : Nat → Nat} {A : Nat → Prop} (hA : ∀ q, s.heap.size ≤ q → A q) (S : CallFix p m c cM_start 3 s args jall RM) (hN : mN A s) (hr : meth.sig.returnType = some .int) (hlk : meth.locks = false) (out : Int32 × JS) (k : JS → Int32 → Option (Int32 × JS)) (x1 : Int32) (hk : ∀ (σ : JS) (x2 : Int32) (ls : Array Slot) (H : Heap) (locs : List Loc), lv_has ls 3 [(0, .ref (ad 0)), (1, .int x1), (2, .int x2)] → jH D (mT ca) (mC ca ad σ) A s.heap H locs s → k σ x2 = some out → W p l e (headSpec wsM_start rmM_start).room s m args below meth c H locs 0 0 (MQ below (jQi D (mT ca) (mC ca ad) A out.1 out.2) args s 0 0 A) (F0 m 75 ls [])) : ∀ (n : Nat) (σ : JS) (x2 : Int32) (ls : Array Slot) (H : Heap) (locs : List Loc), lv_has ls 3 [(0, .ref (ad 0)), (1, .int x1), (2, .int x2)] → jH D (mT ca) (mC ca ad σ) A s.heap H locs s → mM_start_L42 k x1 n σ x2 = some out → W p l e (headSpec wsM_start rmM_start).room s m args below meth c H locs 0 0 (MQ below (jQi D (mT ca) (mC ca ad) A out.1 out.2) args s 0 0 A) (F0 m 42 ls []) := by
  have hx := S.1
  have hb := S.2.1
  intro n
  induction n with
  | zero => intro σ x2 ls H locs hl hw hf; cases hf
  | succ n ih =>
    intro σ x2 ls H locs hl hw hf
    rw [mM_start_L42] at hf
    refine lv_iload_n (pc := 42) hx hb dM_start_42 rfl (lv_at hl 2 rfl) ?_
    refine lv_bipush (pc := 43) (v := (8 : Int32)) hx hb dM_start_43 (by decide) ?_
    refine lv_icmp_ge (pc := 45) (tgt := 75) hx hb dM_start_45 (by decide) (fun hc => ?_) (fun hc => ?_)
    · replace hf := jit hf hc
      exact hk σ x2 _ _ _ (lv_sub hl [0, 1, 2] rfl) hw hf
    · replace hf := jif hf hc
      refine lv_aload_n (pc := 48) hx hb dM_start_48 rfl (lv_at hl 0 rfl) ?_
      refine j_get (pc := 49) (v := .ref (ad 10)) S hw inM 0 6 15 mg_0 rfl (by decide) k_611 rfl dM_start_49 ?_
      refine lv_bipush (pc := 52) (v := (8 : Int32)) hx hb dM_start_52 (by decide) ?_
      refine lv_iload_n (pc := 54) hx hb dM_start_54 rfl (lv_at hl 1 rfl) ?_
      refine lv_imul (pc := 55) hx hb dM_start_55 ?_
      refine lv_iload_n (pc := 56) hx hb dM_start_56 rfl (lv_at hl 2 rfl) ?_
      refine lv_iadd (pc := 57) hx hb dM_start_57 ?_
      refine lv_aload_n (pc := 58) hx hb dM_start_58 rfl (lv_at hl 0 rfl) ?_
      refine lv_iload_n (pc := 59) hx hb dM_start_59 rfl (lv_at hl 1 rfl) ?_
      refine lv_iload_n (pc := 60) hx hb dM_start_60 rfl (lv_at hl 2 rfl) ?_
      refine lv_aload_n (pc := 61) hx hb dM_start_61 rfl (lv_at hl 0 rfl) ?_
      refine j_get (pc := 62) (v := .int (σ 100 2)) S hw inM 0 6 5 mg_0 rfl (by decide) k_601 rfl dM_start_62 ?_
      have hg := jbn_e hf; clear hf; obtain ⟨q5, h6, hf⟩ := hg
      refine j_cpi (pc := 65) (v := q5) (va_runV (As := [.int x1, .int x2, .int (σ 100 2)]) (rest := [.int (((8 : Int32) * x1) + x2), .ref (ad 10)]) S (kM_valueAt l D ca ad _ σ x1 x2 (σ 100 2) q5 h6) (cwV 3 S.2.2.2.2 (jgV k_727 k_729 ks_20 k_7 k_730) rfl rfl rfl (by decide +kernel) ⟨Nat.le_of_ble_eq_true rfl, Nat.le_of_ble_eq_true rfl⟩) (j_preV (As := [.int x1, .int x2, .int (σ 100 2)]) hw mN_b (mN_to hN hw hA) rfl mg_0) rfl rfl hl.1 rfl (lv_room (Nat.le_of_ble_eq_true rfl)) dM_start_65 ⟨Nat.le_of_ble_eq_true rfl, Nat.le_of_ble_eq_true rfl⟩) ?_
      have hg := jwr_e hf; clear hf; obtain ⟨h8, σ7, e9, hf⟩ := hg
      refine j_iast (pc := 68) (ws' := mC ca ad σ7) S hw 10 9 mg_10 mt_10 h8 (by rw [e9]; exact ms_10) dM_start_68 (fun H locs hw => ?_)
      refine lv_iinc (pc := 69) (v := (x2 + 1)) (k := 2) (lv' := [(2, .int (x2 + 1)), (0, .ref (ad 0)), (1, .int x1)]) hx hb dM_start_69 hl rfl (j_inc _ (by decide)) (by decide) rfl (fun ls hl => ?_)
      refine lv_goto (pc := 72) (tgt := 42) hx hb dM_start_72 (by decide) ?_
      exact ih σ7 (x2 + 1) _ _ _ (lv_sub hl [1, 2, 0] rfl) hw hf
set_option maxHeartbeats 4000000 in
set_option maxRecDepth 100000 in
theorem wmM_start_L32g {p : Program} {l : Launch} {e : Env} {s : State} {m : MethodId} {args : Array Value} {below : List Frame} {meth : Method} {c : Code} {D : va_G} {ca : Nat → ClassId} {ad : Nat → Nat} {A : Nat → Prop} (hA : ∀ q, s.heap.size ≤ q → A q) (S : CallFix p m c cM_start 3 s args jall RM) (hN : mN A s) (hr : meth.sig.returnType = some .int) (hlk : meth.locks = false) (out : Int32 × JS) (k : JS → Int32 → Option (Int32 × JS))  (hk : ∀ (σ : JS) (x1 : Int32) (ls : Array Slot) (H : Heap) (locs : List Loc), lv_has ls 3 [(0, .ref (ad 0)), (1, .int x1)] → jH D (mT ca) (mC ca ad σ) A s.heap H locs s → k σ x1 = some out → W p l e (headSpec wsM_start rmM_start).room s m args below meth c H locs 0 0 (MQ below (jQi D (mT ca) (mC ca ad) A out.1 out.2) args s 0 0 A) (F0 m 81 ls [])) : ∀ (n : Nat) (σ : JS) (x1 : Int32) (ls : Array Slot) (H : Heap) (locs : List Loc), lv_has ls 3 [(0, .ref (ad 0)), (1, .int x1)] → jH D (mT ca) (mC ca ad σ) A s.heap H locs s → mM_start_L32 k  n σ x1 = some out → W p l e (headSpec wsM_start rmM_start).room s m args below meth c H locs 0 0 (MQ below (jQi D (mT ca) (mC ca ad) A out.1 out.2) args s 0 0 A) (F0 m 32 ls []) := by
  have hx := S.1
  have hb := S.2.1
  intro n
  induction n with
  | zero => intro σ x1 ls H locs hl hw hf; cases hf
  | succ n ih =>
    intro σ x1 ls H locs hl hw hf
    rw [mM_start_L32] at hf
    refine lv_iload_n (pc := 32) hx hb dM_start_32 rfl (lv_at hl 1 rfl) ?_
    refine lv_aload_n (pc := 33) hx hb dM_start_33 rfl (lv_at hl 0 rfl) ?_
    refine j_get (pc := 34) (v := .int (σ 100 1)) S hw inM 0 6 1 mg_0 rfl (by decide) k_597 rfl dM_start_34 ?_
    refine lv_icmp_ge (pc := 37) (tgt := 81) hx hb dM_start_37 (by decide) (fun hc => ?_) (fun hc => ?_)
    · replace hf := jit hf hc
      exact hk σ x1 _ _ _ (lv_sub hl [0, 1] rfl) hw hf
    · replace hf := jif hf hc
      refine lv_iconst (pc := 40) (v := (0 : Int32)) hx hb dM_start_40 (by decide) ?_
      refine lv_istore_n (pc := 41) (lv' := [(2, .int (0 : Int32)), (0, .ref (ad 0)), (1, .int x1)]) hx hb dM_start_41 rfl hl (by decide) rfl (fun ls hl => ?_)
      refine wmM_start_L42g hA S hN hr hlk out _ x1 (fun σ10 z11 ls H locs hl hw hf => ?_) 999 σ (0 : Int32) _ _ _ (lv_sub hl [1, 2, 0] rfl) hw hf
      try dsimp only at hf
      refine lv_iinc (pc := 75) (v := (x1 + 1)) (k := 1) (lv' := [(1, .int (x1 + 1)), (0, .ref (ad 0)), (2, .int z11)]) hx hb dM_start_75 hl rfl (j_inc _ (by decide)) (by decide) rfl (fun ls hl => ?_)
      refine lv_goto (pc := 78) (tgt := 32) hx hb dM_start_78 (by decide) ?_
      exact ih σ10 (x1 + 1) _ _ _ (lv_sub hl [1, 0] rfl) hw hf
set_option maxHeartbeats 4000000 in
set_option maxRecDepth 100000 in
theorem wmM_start_L83g {p : Program} {l : Launch} {e : Env} {s : State} {m : MethodId} {args : Array Value} {below : List Frame} {meth : Method} {c : Code} {D : va_G} {ca : Nat → ClassId} {ad : Nat → Nat} {A : Nat → Prop} (hA : ∀ q, s.heap.size ≤ q → A q) (S : CallFix p m c cM_start 3 s args jall RM) (hN : mN A s) (hr : meth.sig.returnType = some .int) (hlk : meth.locks = false) (out : Int32 × JS)  : ∀ (n : Nat) (σ : JS) (x1 : Int32) (ls : Array Slot) (H : Heap) (locs : List Loc), lv_has ls 3 [(0, .ref (ad 0)), (1, .int x1)] → jH D (mT ca) (mC ca ad σ) A s.heap H locs s → mM_start_L83  n σ x1 = some out → W p l e (headSpec wsM_start rmM_start).room s m args below meth c H locs 0 0 (MQ below (jQi D (mT ca) (mC ca ad) A out.1 out.2) args s 0 0 A) (F0 m 83 ls []) := by
  have hx := S.1
  have hb := S.2.1
  intro n
  induction n with
  | zero => intro σ x1 ls H locs hl hw hf; cases hf
  | succ n ih =>
    intro σ x1 ls H locs hl hw hf
    rw [mM_start_L83] at hf
    refine lv_iload_n (pc := 83) hx hb dM_start_83 rfl (lv_at hl 1 rfl) ?_
    refine lv_iconst (pc := 84) (v := (3 : Int32)) hx hb dM_start_84 (by decide) ?_
    refine lv_icmp_ge (pc := 85) (tgt := 111) hx hb dM_start_85 (by decide) (fun hc => ?_) (fun hc => ?_)
    · replace hf := jit hf hc
      refine lv_aload_n (pc := 111) hx hb dM_start_111 rfl (lv_at hl 0 rfl) ?_
      refine j_get (pc := 112) (v := .int (σ 100 2)) S hw inM 0 6 5 mg_0 rfl (by decide) k_601 rfl dM_start_112 ?_
      obtain rfl := jsm hf
      exact j_iret (pc := 115) S hw hr hlk dM_start_115
    · replace hf := jif hf hc
      refine lv_aload_n (pc := 88) hx hb dM_start_88 rfl (lv_at hl 0 rfl) ?_
      refine lv_iload_n (pc := 89) hx hb dM_start_89 rfl (lv_at hl 1 rfl) ?_
      refine lv_aload_n (pc := 90) hx hb dM_start_90 rfl (lv_at hl 0 rfl) ?_
      refine j_get (pc := 91) (v := .int (σ 100 2)) S hw inM 0 6 5 mg_0 rfl (by decide) k_601 rfl dM_start_91 ?_
      have hg := jbn_e hf; clear hf; obtain ⟨q14, h15, hf⟩ := hg
      refine j_cpi (pc := 94) (v := q14) (va_runV (As := [.int x1, .int (σ 100 2)]) (rest := []) S (kM_cycleAt l D ca ad _ σ x1 (σ 100 2) q14 h15) (cwV 2 S.2.2.2.2 (jgV k_703 k_705 ks_18 k_7 k_706) rfl rfl rfl (by decide +kernel) ⟨Nat.le_of_ble_eq_true rfl, Nat.le_of_ble_eq_true rfl⟩) (j_preV (As := [.int x1, .int (σ 100 2)]) hw mN_b (mN_to hN hw hA) rfl mg_0) rfl rfl hl.1 rfl (lv_room (Nat.le_of_ble_eq_true rfl)) dM_start_94 ⟨Nat.le_of_ble_eq_true rfl, Nat.le_of_ble_eq_true rfl⟩) ?_
      refine lv_if_le (pc := 97) (tgt := 105) hx hb dM_start_97 (by decide) (fun hc => ?_) (fun hc => ?_)
      · replace hf := jit hf hc
        refine lv_iinc (pc := 105) (v := (x1 + 1)) (k := 1) (lv' := [(1, .int (x1 + 1)), (0, .ref (ad 0))]) hx hb dM_start_105 hl rfl (j_inc _ (by decide)) (by decide) rfl (fun ls hl => ?_)
        refine lv_goto (pc := 108) (tgt := 83) hx hb dM_start_108 (by decide) ?_
        exact ih σ (x1 + 1) _ _ _ (lv_sub hl [1, 0] rfl) hw hf
      · replace hf := jif hf hc
        refine lv_aload_n (pc := 100) hx hb dM_start_100 rfl (lv_at hl 0 rfl) ?_
        refine lv_iload_n (pc := 101) hx hb dM_start_101 rfl (lv_at hl 1 rfl) ?_
        have hg := jbn_e hf; clear hf; obtain ⟨q16, h17, hf⟩ := hg
        refine j_callv (pc := 102) (C := mC ca ad) (σ' := q16) hw hA (va_runV (As := [.int x1]) (rest := []) S (kM_undo l D ca ad _ σ x1 q16 h17) (cwV 1 S.2.2.2.2 (jgV k_748 k_750 ks_29 k_7 k_751) rfl rfl rfl (by decide +kernel) ⟨Nat.le_of_ble_eq_true rfl, Nat.le_of_ble_eq_true rfl⟩) (j_preV (As := [.int x1]) hw mN_b (mN_to hN hw hA) rfl mg_0) rfl rfl hl.1 rfl (lv_room (Nat.le_of_ble_eq_true rfl)) dM_start_102 ⟨Nat.le_of_ble_eq_true rfl, Nat.le_of_ble_eq_true rfl⟩) (fun H locs hw => ?_)
        refine lv_iinc (pc := 105) (v := (x1 + 1)) (k := 1) (lv' := [(1, .int (x1 + 1)), (0, .ref (ad 0))]) hx hb dM_start_105 hl rfl (j_inc _ (by decide)) (by decide) rfl (fun ls hl => ?_)
        refine lv_goto (pc := 108) (tgt := 83) hx hb dM_start_108 (by decide) ?_
        exact ih q16 (x1 + 1) _ _ _ (lv_sub hl [1, 0] rfl) hw hf
set_option maxHeartbeats 4000000 in
set_option maxRecDepth 100000 in
theorem wmM_start_J13 {p : Program} {l : Launch} {e : Env} {s : State} {m : MethodId} {args : Array Value} {below : List Frame} {meth : Method} {c : Code} {D : va_G} {ca : Nat → ClassId} {ad : Nat → Nat} {A : Nat → Prop} (hA : ∀ q, s.heap.size ≤ q → A q) (S : CallFix p m c cM_start 3 s args jall RM) (hN : mN A s) (hr : meth.sig.returnType = some .int) (hlk : meth.locks = false) (out : Int32 × JS) (σ : JS) (y0 : Int32) (ls : Array Slot) (hl : lv_has ls 3 [(0, .ref (ad 0))]) (hw : jH D (mT ca) (mC ca ad σ) A s.heap s.heap [] s) (hf : mM_start_J13 σ y0 = some out) : W p l e (headSpec wsM_start rmM_start).room s m args below meth c s.heap [] 0 0 (MQ below (jQi D (mT ca) (mC ca ad) A out.1 out.2) args s 0 0 A) (F0 m 13 ls [.int y0, .ref (ad 0)]) := by
  have hx := S.1
  have hb := S.2.1
  unfold mM_start_J13 at hf
  have hg := jst_e hf; clear hf; obtain ⟨σ1, e2, hf⟩ := hg
  refine j_put (pc := 13) (v := .int y0) (ws' := mC ca ad σ1) S hw inM tyM tyM_ok nmM 0 6 0 mg_0 rfl (by decide) k_596 rfl rfl rfl (Nat.le_of_ble_eq_true rfl) (by rw [e2]; exact mp_0) dM_start_13 (fun H locs hw => ?_)
  refine lv_aload_n (pc := 16) hx hb dM_start_16 rfl (lv_at hl 0 rfl) ?_
  refine j_get (pc := 17) (v := .int (σ1 100 0)) S hw inM 0 6 0 mg_0 rfl (by decide) k_596 rfl dM_start_17 ?_
  refine lv_if_le (pc := 20) (tgt := 25) hx hb dM_start_20 (by decide) (fun hc => ?_) (fun hc => ?_)
  · replace hf := jit hf hc
    refine lv_aload_n (pc := 25) hx hb dM_start_25 rfl (lv_at hl 0 rfl) ?_
    refine lv_iconst (pc := 26) (v := (0 : Int32)) hx hb dM_start_26 (by decide) ?_
    have hg := jst_e hf; clear hf; obtain ⟨σ3, e4, hf⟩ := hg
    refine j_put (pc := 27) (v := .int (0 : Int32)) (ws' := mC ca ad σ3) S hw inM tyM tyM_ok nmM 0 6 8 mg_0 rfl (by decide) k_604 rfl rfl rfl (Nat.le_of_ble_eq_true rfl) (by rw [e4]; exact mp_5) dM_start_27 (fun H locs hw => ?_)
    refine lv_iconst (pc := 30) (v := (0 : Int32)) hx hb dM_start_30 (by decide) ?_
    refine lv_istore_n (pc := 31) (lv' := [(1, .int (0 : Int32)), (0, .ref (ad 0))]) hx hb dM_start_31 rfl hl (by decide) rfl (fun ls hl => ?_)
    refine wmM_start_L32g hA S hN hr hlk out _  (fun σ12 z13 ls H locs hl hw hf => ?_) 999 σ3 (0 : Int32) _ _ _ (lv_sub hl [1, 0] rfl) hw hf
    try dsimp only at hf
    refine lv_iconst (pc := 81) (v := (0 : Int32)) hx hb dM_start_81 (by decide) ?_
    refine lv_istore_n (pc := 82) (lv' := [(1, .int (0 : Int32)), (0, .ref (ad 0))]) hx hb dM_start_82 rfl hl (by decide) rfl (fun ls hl => ?_)
    exact wmM_start_L83g hA S hN hr hlk out  999 σ12 (0 : Int32) _ _ _ (lv_sub hl [1, 0] rfl) hw hf
  · replace hf := jif hf hc
    refine lv_iconst (pc := 23) (v := (0 : Int32)) hx hb dM_start_23 (by decide) ?_
    obtain rfl := jsm hf
    exact j_iret (pc := 24) S hw hr hlk dM_start_24
set_option maxHeartbeats 4000000 in
set_option maxRecDepth 100000 in
theorem bM_start {p : Program} {l : Launch} {e : Env} {s : State} {m : MethodId} {args : Array Value} {below : List Frame} {meth : Method} {c : Code} {D : va_G} {ca : Nat → ClassId} {ad : Nat → Nat} {A : Nat → Prop} (hA : ∀ q, s.heap.size ≤ q → A q) (S : CallFix p m c cM_start 3 s args jall RM) (hN : mN A s) (hr : meth.sig.returnType = some .int) (hlk : meth.locks = false) (out : Int32 × JS) (σ : JS)  (ls : Array Slot) (hl : lv_has ls 3 [(0, .ref (ad 0))]) (hw : jH D (mT ca) (mC ca ad σ) A s.heap s.heap [] s) (hf : mM_start σ  = some out) : W p l e (headSpec wsM_start rmM_start).room s m args below meth c s.heap [] 0 0 (MQ below (jQi D (mT ca) (mC ca ad) A out.1 out.2) args s 0 0 A) (F0 m 0 ls []) := by
  have hx := S.1
  have hb := S.2.1
  unfold mM_start at hf
  refine lv_aload_n (pc := 0) hx hb dM_start_0 rfl (lv_at hl 0 rfl) ?_
  refine lv_aload_n (pc := 1) hx hb dM_start_1 rfl (lv_at hl 0 rfl) ?_
  refine j_get (pc := 2) (v := .int (σ 100 5)) S hw inM 0 6 8 mg_0 rfl (by decide) k_604 rfl dM_start_2 ?_
  refine lv_if_eq (pc := 5) (tgt := 12) hx hb dM_start_5 (by decide) (fun hc => ?_) (fun hc => ?_)
  · replace hf := jit hf hc
    refine lv_iconst (pc := 12) (v := (1 : Int32)) hx hb dM_start_12 (by decide) ?_
    exact wmM_start_J13 hA S hN hr hlk out σ (1 : Int32) _ (lv_sub hl [0] rfl) hw hf
  · replace hf := jif hf hc
    refine lv_iconst (pc := 8) (v := (0 : Int32)) hx hb dM_start_8 (by decide) ?_
    refine lv_goto (pc := 9) (tgt := 13) hx hb dM_start_9 (by decide) ?_
    exact wmM_start_J13 hA S hN hr hlk out σ (0 : Int32) _ (lv_sub hl [0] rfl) hw hf
set_option maxHeartbeats 4000000 in
set_option maxRecDepth 100000 in
theorem kM_start (l : Launch) (D : va_G) (ca : Nat → ClassId) (ad : Nat → Nat) (sz : Nat) (σ : JS)  (out : Int32 × JS) (hf : mM_start σ  = some out) : Met l yM_start wsM_start rmM_start (jPre D (mT ca) (mC ca ad σ) (mN (va_A (mC ca ad σ) sz)) sz [.ref (ad 0)]) (jQi D (mT ca) (mC ca ad) (va_A (mC ca ad σ) sz) out.1 out.2) 0 0 (va_A (mC ca ad σ) sz) := by
  refine Met.ofW (cc := cM_start) (maxL := 3) (ret := some .int) (by decide) rfl ?_
  intro p e s m args below meth c s₁ B hml hv
  obtain ⟨rfl, hsz, hP, hK, hD0, hN⟩ := hv
  subst hsz
  have hl := lv_entry [.ref (ad 0)] (n := 3) (Nat.le_of_ble_eq_true rfl)
  rw [lg_entry_eq]
  generalize (lg_sl [.ref (ad 0)] ++ List.replicate (3 - (lg_sl [.ref (ad 0)]).length) Slot.unset).toArray = ls at hl ⊢
  exact bM_start (fun q h => Or.inr h) ⟨B.exec, B.bytes, hml, findClass_of_methodNamed B.named, fun w h => atoms_spec (ws := wsM_start) B.pre w (List.mem_cons_of_mem _ h)⟩ hN B.returns B.notSynchronized out σ  ls hl ⟨hP, hD0.self, va_S.rf, hK⟩ hf

def rmM_link : Room := { frames := 1, cells := 0, slots := 0, locals := 22 }
def mM_link_L151 (k : JS → Int32 → Option (Int32 × JS)) (x2 : Int32) (x4 : Int32) : Nat → JS → Int32 → Option (Int32 × JS)
  | 0, _, _ => none
  | n + 1, σ, x5 =>
    if (σ 100 7) ≤ x5 then
    (k σ x5)
    else
    (jrd σ 14 17 (x5 + (1 : Int32)) fun v12 =>
    jwr σ 14 17 x5 v12 fun σ15 =>
    mM_link_L151 k x2 x4 n σ15 (x5 + 1))
def mM_link_L201  : Nat → JS → Option (Int32 × JS)
  | 0, _ => none
  | n + 1, σ =>
    jrd σ 15 122 ((σ 100 8) + (1 : Int32)) fun v23 =>
    if v23 = 0 then
    (some ((σ 100 7), σ))
    else
    (jst (jw2 σ 100 8 ((σ 100 8) + (1 : Int32))) fun σ26 =>
    mM_link_L201  n σ26)
def mM_link_J74 (σ : JS) (x1 : Int32) (x2 : Int32) (y0 : Int32) : Option (Int32 × JS) :=
  jst (jw2 σ 100 0 y0) fun σ5 =>
  if (σ5 100 0) ≤ 0 then
  (if x2 ≤ (1 : Int32) then
  (jrd σ5 14 17 x1 fun v7 =>
  jst (jw2 σ5 100 7 ((σ5 100 7) - (1 : Int32))) fun σ10 =>
  mM_link_L151 (fun σ18 z19 =>
  if x2 = 0 then
  (if (σ18 100 9) = 0 then
  (jwr σ18 15 122 v7 (1 : Int32) fun σ20 =>
  mM_link_L201  999 σ20)
  else
  (some ((σ18 100 7), σ18)))
  else
  (some ((σ18 100 7), σ18))) x2 v7 999 σ10 x1)
  else
  (if x2 = (3 : Int32) then
  (jwr σ5 14 17 (σ5 100 7) x1 fun σ36 =>
  jst (jw2 σ36 100 7 ((σ36 100 7) + (1 : Int32))) fun σ39 =>
  some ((σ39 100 7), σ39))
  else
  (jrd σ5 14 17 x1 fun v28 =>
  jwr σ5 14 17 (σ5 100 7) v28 fun σ31 =>
  jst (jw2 σ31 100 7 ((σ31 100 7) + (1 : Int32))) fun σ34 =>
  some ((σ34 100 7), σ34))))
  else
  (some ((0 : Int32), σ5))
def mM_link_J39 (σ : JS) (x1 : Int32) (x2 : Int32) : Option (Int32 × JS) :=
  mM_link_J74 σ x1 x2 (1 : Int32)
def mM_link_J73 (σ : JS) (x1 : Int32) (x2 : Int32) : Option (Int32 × JS) :=
  mM_link_J74 σ x1 x2 (0 : Int32)
def mM_link_J69 (σ : JS) (x1 : Int32) (x2 : Int32) : Option (Int32 × JS) :=
  mM_link_J74 σ x1 x2 (2 : Int32)
def mM_link_J57 (σ : JS) (x1 : Int32) (x2 : Int32) : Option (Int32 × JS) :=
  if x2 = (3 : Int32) then
  (if (σ 100 5) = 0 then
  (mM_link_J73 σ x1 x2)
  else
  (mM_link_J69 σ x1 x2))
  else
  (mM_link_J73 σ x1 x2)
def mM_link_J24 (σ : JS) (x1 : Int32) (x2 : Int32) (y0 : Int32) : Option (Int32 × JS) :=
  jbn (mM_within σ x2 (0 : Int32) (3 : Int32)) fun q3 =>
  if q3 = 0 then
  (mM_link_J39 σ x1 x2)
  else
  (if y0 = 0 then
  (mM_link_J39 σ x1 x2)
  else
  (if x2 ≤ (1 : Int32) then
  (mM_link_J57 σ x1 x2)
  else
  (if (σ 100 7) = (16 : Int32) then
  (mM_link_J69 σ x1 x2)
  else
  (mM_link_J57 σ x1 x2))))
def mM_link (σ : JS) (x1 : Int32) (x2 : Int32) : Option (Int32 × JS) :=
  if x2 = (3 : Int32) then
  (jbn (mM_isKept σ x1) fun q41 =>
  mM_link_J24 σ x1 x2 q41)
  else
  (jbn (mM_within σ x1 (0 : Int32) ((σ 100 7) - (1 : Int32))) fun q1 =>
  mM_link_J24 σ x1 x2 q1)
set_option maxHeartbeats 4000000 in
set_option maxRecDepth 100000 in
theorem wmM_link_L151g {p : Program} {l : Launch} {e : Env} {s : State} {m : MethodId} {args : Array Value} {below : List Frame} {meth : Method} {c : Code} {D : va_G} {ca : Nat → ClassId} {ad : Nat → Nat} {A : Nat → Prop} (hA : ∀ q, s.heap.size ≤ q → A q) (S : CallFix p m c cM_link 6 s args jall RM) (hN : mN A s) (hr : meth.sig.returnType = some .int) (hlk : meth.locks = false) (out : Int32 × JS) (k : JS → Int32 → Option (Int32 × JS)) (x2 : Int32) (x4 : Int32) (hk : ∀ (σ : JS) (x5 : Int32) (ls : Array Slot) (H : Heap) (locs : List Loc), lv_has ls 6 [(0, .ref (ad 0)), (2, .int x2), (4, .int x4), (5, .int x5)] → jH D (mT ca) (mC ca ad σ) A s.heap H locs s → k σ x5 = some out → W p l e (headSpec wsM_link rmM_link).room s m args below meth c H locs 0 0 (MQ below (jQi D (mT ca) (mC ca ad) A out.1 out.2) args s 0 0 A) (F0 m 182 ls [])) : ∀ (n : Nat) (σ : JS) (x5 : Int32) (ls : Array Slot) (H : Heap) (locs : List Loc), lv_has ls 6 [(0, .ref (ad 0)), (2, .int x2), (4, .int x4), (5, .int x5)] → jH D (mT ca) (mC ca ad σ) A s.heap H locs s → mM_link_L151 k x2 x4 n σ x5 = some out → W p l e (headSpec wsM_link rmM_link).room s m args below meth c H locs 0 0 (MQ below (jQi D (mT ca) (mC ca ad) A out.1 out.2) args s 0 0 A) (F0 m 151 ls []) := by
  have hx := S.1
  have hb := S.2.1
  intro n
  induction n with
  | zero => intro σ x5 ls H locs hl hw hf; cases hf
  | succ n ih =>
    intro σ x5 ls H locs hl hw hf
    rw [mM_link_L151] at hf
    refine lv_iload (pc := 151) hx hb dM_link_151 (lv_at hl 3 rfl) ?_
    refine lv_aload_n (pc := 153) hx hb dM_link_153 rfl (lv_at hl 0 rfl) ?_
    refine j_get (pc := 154) (v := .int (σ 100 7)) S hw inM 0 6 20 mg_0 rfl (by decide) k_616 rfl dM_link_154 ?_
    refine lv_icmp_ge (pc := 157) (tgt := 182) hx hb dM_link_157 (by decide) (fun hc => ?_) (fun hc => ?_)
    · replace hf := jit hf hc
      exact hk σ x5 _ _ _ (lv_sub hl [0, 1, 2, 3] rfl) hw hf
    · replace hf := jif hf hc
      refine lv_aload_n (pc := 160) hx hb dM_link_160 rfl (lv_at hl 0 rfl) ?_
      refine j_get (pc := 161) (v := .ref (ad 14)) S hw inM 0 6 21 mg_0 rfl (by decide) k_617 rfl dM_link_161 ?_
      refine lv_iload (pc := 164) hx hb dM_link_164 (lv_at hl 3 rfl) ?_
      refine lv_aload_n (pc := 166) hx hb dM_link_166 rfl (lv_at hl 0 rfl) ?_
      refine j_get (pc := 167) (v := .ref (ad 14)) S hw inM 0 6 21 mg_0 rfl (by decide) k_617 rfl dM_link_167 ?_
      refine lv_iload (pc := 170) hx hb dM_link_170 (lv_at hl 3 rfl) ?_
      refine lv_iconst (pc := 172) (v := (1 : Int32)) hx hb dM_link_172 (by decide) ?_
      refine lv_iadd (pc := 173) hx hb dM_link_173 ?_
      have hg := jrd_e hf; clear hf; obtain ⟨h13, v12, e14, hf⟩ := hg
      refine j_iald (pc := 174) S hw 14 13 mg_14 mt_14 h13 e14 dM_link_174 ?_
      have hg := jwr_e hf; clear hf; obtain ⟨h16, σ15, e17, hf⟩ := hg
      refine j_iast (pc := 175) (ws' := mC ca ad σ15) S hw 14 13 mg_14 mt_14 h16 (by rw [e17]; exact ms_14) dM_link_175 (fun H locs hw => ?_)
      refine lv_iinc (pc := 176) (v := (x5 + 1)) (k := 3) (lv' := [(5, .int (x5 + 1)), (0, .ref (ad 0)), (2, .int x2), (4, .int x4)]) hx hb dM_link_176 hl rfl (j_inc _ (by decide)) (by decide) rfl (fun ls hl => ?_)
      refine lv_goto (pc := 179) (tgt := 151) hx hb dM_link_179 (by decide) ?_
      exact ih σ15 (x5 + 1) _ _ _ (lv_sub hl [1, 2, 3, 0] rfl) hw hf
set_option maxHeartbeats 4000000 in
set_option maxRecDepth 100000 in
theorem wmM_link_L201g {p : Program} {l : Launch} {e : Env} {s : State} {m : MethodId} {args : Array Value} {below : List Frame} {meth : Method} {c : Code} {D : va_G} {ca : Nat → ClassId} {ad : Nat → Nat} {A : Nat → Prop} (hA : ∀ q, s.heap.size ≤ q → A q) (S : CallFix p m c cM_link 6 s args jall RM) (hN : mN A s) (hr : meth.sig.returnType = some .int) (hlk : meth.locks = false) (out : Int32 × JS)  : ∀ (n : Nat) (σ : JS) (ls : Array Slot) (H : Heap) (locs : List Loc), lv_has ls 6 [(0, .ref (ad 0))] → jH D (mT ca) (mC ca ad σ) A s.heap H locs s → mM_link_L201  n σ = some out → W p l e (headSpec wsM_link rmM_link).room s m args below meth c H locs 0 0 (MQ below (jQi D (mT ca) (mC ca ad) A out.1 out.2) args s 0 0 A) (F0 m 201 ls []) := by
  have hx := S.1
  have hb := S.2.1
  intro n
  induction n with
  | zero => intro σ ls H locs hl hw hf; cases hf
  | succ n ih =>
    intro σ ls H locs hl hw hf
    rw [mM_link_L201] at hf
    refine lv_aload_n (pc := 201) hx hb dM_link_201 rfl (lv_at hl 0 rfl) ?_
    refine j_get (pc := 202) (v := .ref (ad 15)) S hw inM 0 6 22 mg_0 rfl (by decide) k_618 rfl dM_link_202 ?_
    refine lv_aload_n (pc := 205) hx hb dM_link_205 rfl (lv_at hl 0 rfl) ?_
    refine j_get (pc := 206) (v := .int (σ 100 8)) S hw inM 0 6 23 mg_0 rfl (by decide) k_619 rfl dM_link_206 ?_
    refine lv_iconst (pc := 209) (v := (1 : Int32)) hx hb dM_link_209 (by decide) ?_
    refine lv_iadd (pc := 210) hx hb dM_link_210 ?_
    have hg := jrd_e hf; clear hf; obtain ⟨h24, v23, e25, hf⟩ := hg
    refine j_zald (pc := 211) S hw 15 14 mg_15 mt_15 h24 e25 dM_link_211 ?_
    refine lv_if_eq (pc := 212) (tgt := 228) hx hb dM_link_212 (by decide) (fun hc => ?_) (fun hc => ?_)
    · replace hf := jit hf hc
      refine lv_aload_n (pc := 228) hx hb dM_link_228 rfl (lv_at hl 0 rfl) ?_
      refine j_get (pc := 229) (v := .int (σ 100 7)) S hw inM 0 6 20 mg_0 rfl (by decide) k_616 rfl dM_link_229 ?_
      obtain rfl := jsm hf
      exact j_iret (pc := 232) S hw hr hlk dM_link_232
    · replace hf := jif hf hc
      refine lv_aload_n (pc := 215) hx hb dM_link_215 rfl (lv_at hl 0 rfl) ?_
      refine lv_dup (pc := 216) hx hb dM_link_216 rfl ?_
      refine j_get (pc := 217) (v := .int (σ 100 8)) S hw inM 0 6 23 mg_0 rfl (by decide) k_619 rfl dM_link_217 ?_
      refine lv_iconst (pc := 220) (v := (1 : Int32)) hx hb dM_link_220 (by decide) ?_
      refine lv_iadd (pc := 221) hx hb dM_link_221 ?_
      have hg := jst_e hf; clear hf; obtain ⟨σ26, e27, hf⟩ := hg
      refine j_put (pc := 222) (v := .int ((σ 100 8) + (1 : Int32))) (ws' := mC ca ad σ26) S hw inM tyM tyM_ok nmM 0 6 23 mg_0 rfl (by decide) k_619 rfl rfl rfl (Nat.le_of_ble_eq_true rfl) (by rw [e27]; exact mp_8) dM_link_222 (fun H locs hw => ?_)
      refine lv_goto (pc := 225) (tgt := 201) hx hb dM_link_225 (by decide) ?_
      exact ih σ26 _ _ _ (lv_sub hl [0] rfl) hw hf
set_option maxHeartbeats 4000000 in
set_option maxRecDepth 100000 in
theorem wmM_link_J74 {p : Program} {l : Launch} {e : Env} {s : State} {m : MethodId} {args : Array Value} {below : List Frame} {meth : Method} {c : Code} {D : va_G} {ca : Nat → ClassId} {ad : Nat → Nat} {A : Nat → Prop} (hA : ∀ q, s.heap.size ≤ q → A q) (S : CallFix p m c cM_link 6 s args jall RM) (hN : mN A s) (hr : meth.sig.returnType = some .int) (hlk : meth.locks = false) (out : Int32 × JS) (σ : JS) (x1 : Int32) (x2 : Int32) (y0 : Int32) (ls : Array Slot) (hl : lv_has ls 6 [(0, .ref (ad 0)), (1, .int x1), (2, .int x2)]) (hw : jH D (mT ca) (mC ca ad σ) A s.heap s.heap [] s) (hf : mM_link_J74 σ x1 x2 y0 = some out) : W p l e (headSpec wsM_link rmM_link).room s m args below meth c s.heap [] 0 0 (MQ below (jQi D (mT ca) (mC ca ad) A out.1 out.2) args s 0 0 A) (F0 m 74 ls [.int y0, .ref (ad 0)]) := by
  have hx := S.1
  have hb := S.2.1
  unfold mM_link_J74 at hf
  have hg := jst_e hf; clear hf; obtain ⟨σ5, e6, hf⟩ := hg
  refine j_put (pc := 74) (v := .int y0) (ws' := mC ca ad σ5) S hw inM tyM tyM_ok nmM 0 6 0 mg_0 rfl (by decide) k_596 rfl rfl rfl (Nat.le_of_ble_eq_true rfl) (by rw [e6]; exact mp_0) dM_link_74 (fun H locs hw => ?_)
  refine lv_aload_n (pc := 77) hx hb dM_link_77 rfl (lv_at hl 0 rfl) ?_
  refine j_get (pc := 78) (v := .int (σ5 100 0)) S hw inM 0 6 0 mg_0 rfl (by decide) k_596 rfl dM_link_78 ?_
  refine lv_if_le (pc := 81) (tgt := 86) hx hb dM_link_81 (by decide) (fun hc => ?_) (fun hc => ?_)
  · replace hf := jit hf hc
    refine lv_iload_n (pc := 86) hx hb dM_link_86 rfl (lv_at hl 2 rfl) ?_
    refine lv_iconst (pc := 87) (v := (1 : Int32)) hx hb dM_link_87 (by decide) ?_
    refine lv_icmp_le (pc := 88) (tgt := 130) hx hb dM_link_88 (by decide) (fun hc => ?_) (fun hc => ?_)
    · replace hf := jit hf hc
      refine lv_aload_n (pc := 130) hx hb dM_link_130 rfl (lv_at hl 0 rfl) ?_
      refine j_get (pc := 131) (v := .ref (ad 14)) S hw inM 0 6 21 mg_0 rfl (by decide) k_617 rfl dM_link_131 ?_
      refine lv_iload_n (pc := 134) hx hb dM_link_134 rfl (lv_at hl 1 rfl) ?_
      have hg := jrd_e hf; clear hf; obtain ⟨h8, v7, e9, hf⟩ := hg
      refine j_iald (pc := 135) S hw 14 13 mg_14 mt_14 h8 e9 dM_link_135 ?_
      refine lv_istore (pc := 136) (lv' := [(4, .int v7), (0, .ref (ad 0)), (1, .int x1), (2, .int x2)]) hx hb dM_link_136 hl (by decide) rfl (fun ls hl => ?_)
      refine lv_aload_n (pc := 138) hx hb dM_link_138 rfl (lv_at hl 1 rfl) ?_
      refine lv_dup (pc := 139) hx hb dM_link_139 rfl ?_
      refine j_get (pc := 140) (v := .int (σ5 100 7)) S hw inM 0 6 20 mg_0 rfl (by decide) k_616 rfl dM_link_140 ?_
      refine lv_iconst (pc := 143) (v := (1 : Int32)) hx hb dM_link_143 (by decide) ?_
      refine lv_isub (pc := 144) hx hb dM_link_144 ?_
      have hg := jst_e hf; clear hf; obtain ⟨σ10, e11, hf⟩ := hg
      refine j_put (pc := 145) (v := .int ((σ5 100 7) - (1 : Int32))) (ws' := mC ca ad σ10) S hw inM tyM tyM_ok nmM 0 6 20 mg_0 rfl (by decide) k_616 rfl rfl rfl (Nat.le_of_ble_eq_true rfl) (by rw [e11]; exact mp_7) dM_link_145 (fun H locs hw => ?_)
      refine lv_iload_n (pc := 148) hx hb dM_link_148 rfl (lv_at hl 2 rfl) ?_
      refine lv_istore (pc := 149) (lv' := [(5, .int x1), (4, .int v7), (0, .ref (ad 0)), (1, .int x1), (2, .int x2)]) hx hb dM_link_149 hl (by decide) rfl (fun ls hl => ?_)
      refine wmM_link_L151g hA S hN hr hlk out _ x2 v7 (fun σ18 z19 ls H locs hl hw hf => ?_) 999 σ10 x1 _ _ _ (lv_sub hl [2, 4, 1, 0] rfl) hw hf
      try dsimp only at hf
      refine lv_iload_n (pc := 182) hx hb dM_link_182 rfl (lv_at hl 1 rfl) ?_
      refine lv_if_ne (pc := 183) (tgt := 228) hx hb dM_link_183 (by decide) (fun hc => ?_) (fun hc => ?_)
      · replace hf := jif hf hc
        refine lv_aload_n (pc := 228) hx hb dM_link_228 rfl (lv_at hl 0 rfl) ?_
        refine j_get (pc := 229) (v := .int (σ18 100 7)) S hw inM 0 6 20 mg_0 rfl (by decide) k_616 rfl dM_link_229 ?_
        obtain rfl := jsm hf
        exact j_iret (pc := 232) S hw hr hlk dM_link_232
      · replace hf := jit hf hc
        refine lv_aload_n (pc := 186) hx hb dM_link_186 rfl (lv_at hl 0 rfl) ?_
        refine j_get (pc := 187) (v := .int (σ18 100 9)) S hw inM 0 6 24 mg_0 rfl (by decide) k_620 rfl dM_link_187 ?_
        refine lv_if_ne (pc := 190) (tgt := 228) hx hb dM_link_190 (by decide) (fun hc => ?_) (fun hc => ?_)
        · replace hf := jif hf hc
          refine lv_aload_n (pc := 228) hx hb dM_link_228 rfl (lv_at hl 0 rfl) ?_
          refine j_get (pc := 229) (v := .int (σ18 100 7)) S hw inM 0 6 20 mg_0 rfl (by decide) k_616 rfl dM_link_229 ?_
          obtain rfl := jsm hf
          exact j_iret (pc := 232) S hw hr hlk dM_link_232
        · replace hf := jit hf hc
          refine lv_aload_n (pc := 193) hx hb dM_link_193 rfl (lv_at hl 0 rfl) ?_
          refine j_get (pc := 194) (v := .ref (ad 15)) S hw inM 0 6 22 mg_0 rfl (by decide) k_618 rfl dM_link_194 ?_
          refine lv_iload (pc := 197) hx hb dM_link_197 (lv_at hl 2 rfl) ?_
          refine lv_iconst (pc := 199) (v := (1 : Int32)) hx hb dM_link_199 (by decide) ?_
          have hg := jwr_e hf; clear hf; obtain ⟨h21, σ20, e22, hf⟩ := hg
          refine j_zast (pc := 200) (ws' := mC ca ad σ20) S hw 15 14 mg_15 mt_15 h21 rfl (by rw [e22]; exact ms_15) dM_link_200 (fun H locs hw => ?_)
          exact wmM_link_L201g hA S hN hr hlk out  999 σ20 _ _ _ (lv_sub hl [0] rfl) hw hf
    · replace hf := jif hf hc
      refine lv_aload_n (pc := 91) hx hb dM_link_91 rfl (lv_at hl 0 rfl) ?_
      refine j_get (pc := 92) (v := .ref (ad 14)) S hw inM 0 6 21 mg_0 rfl (by decide) k_617 rfl dM_link_92 ?_
      refine lv_aload_n (pc := 95) hx hb dM_link_95 rfl (lv_at hl 0 rfl) ?_
      refine j_get (pc := 96) (v := .int (σ5 100 7)) S hw inM 0 6 20 mg_0 rfl (by decide) k_616 rfl dM_link_96 ?_
      refine lv_iload_n (pc := 99) hx hb dM_link_99 rfl (lv_at hl 2 rfl) ?_
      refine lv_iconst (pc := 100) (v := (3 : Int32)) hx hb dM_link_100 (by decide) ?_
      refine lv_icmp_ne (pc := 101) (tgt := 108) hx hb dM_link_101 (by decide) (fun hc => ?_) (fun hc => ?_)
      · replace hf := jif hf hc
        refine lv_aload_n (pc := 108) hx hb dM_link_108 rfl (lv_at hl 0 rfl) ?_
        refine j_get (pc := 109) (v := .ref (ad 14)) S hw inM 0 6 21 mg_0 rfl (by decide) k_617 rfl dM_link_109 ?_
        refine lv_iload_n (pc := 112) hx hb dM_link_112 rfl (lv_at hl 1 rfl) ?_
        have hg := jrd_e hf; clear hf; obtain ⟨h29, v28, e30, hf⟩ := hg
        refine j_iald (pc := 113) S hw 14 13 mg_14 mt_14 h29 e30 dM_link_113 ?_
        have hg := jwr_e hf; clear hf; obtain ⟨h32, σ31, e33, hf⟩ := hg
        refine j_iast (pc := 114) (ws' := mC ca ad σ31) S hw 14 13 mg_14 mt_14 h32 (by rw [e33]; exact ms_14) dM_link_114 (fun H locs hw => ?_)
        refine lv_aload_n (pc := 115) hx hb dM_link_115 rfl (lv_at hl 0 rfl) ?_
        refine lv_dup (pc := 116) hx hb dM_link_116 rfl ?_
        refine j_get (pc := 117) (v := .int (σ31 100 7)) S hw inM 0 6 20 mg_0 rfl (by decide) k_616 rfl dM_link_117 ?_
        refine lv_iconst (pc := 120) (v := (1 : Int32)) hx hb dM_link_120 (by decide) ?_
        refine lv_iadd (pc := 121) hx hb dM_link_121 ?_
        have hg := jst_e hf; clear hf; obtain ⟨σ34, e35, hf⟩ := hg
        refine j_put (pc := 122) (v := .int ((σ31 100 7) + (1 : Int32))) (ws' := mC ca ad σ34) S hw inM tyM tyM_ok nmM 0 6 20 mg_0 rfl (by decide) k_616 rfl rfl rfl (Nat.le_of_ble_eq_true rfl) (by rw [e35]; exact mp_7) dM_link_122 (fun H locs hw => ?_)
        refine lv_aload_n (pc := 125) hx hb dM_link_125 rfl (lv_at hl 0 rfl) ?_
        refine j_get (pc := 126) (v := .int (σ34 100 7)) S hw inM 0 6 20 mg_0 rfl (by decide) k_616 rfl dM_link_126 ?_
        obtain rfl := jsm hf
        exact j_iret (pc := 129) S hw hr hlk dM_link_129
      · replace hf := jit hf hc
        refine lv_iload_n (pc := 104) hx hb dM_link_104 rfl (lv_at hl 1 rfl) ?_
        refine lv_goto (pc := 105) (tgt := 114) hx hb dM_link_105 (by decide) ?_
        have hg := jwr_e hf; clear hf; obtain ⟨h37, σ36, e38, hf⟩ := hg
        refine j_iast (pc := 114) (ws' := mC ca ad σ36) S hw 14 13 mg_14 mt_14 h37 (by rw [e38]; exact ms_14) dM_link_114 (fun H locs hw => ?_)
        refine lv_aload_n (pc := 115) hx hb dM_link_115 rfl (lv_at hl 0 rfl) ?_
        refine lv_dup (pc := 116) hx hb dM_link_116 rfl ?_
        refine j_get (pc := 117) (v := .int (σ36 100 7)) S hw inM 0 6 20 mg_0 rfl (by decide) k_616 rfl dM_link_117 ?_
        refine lv_iconst (pc := 120) (v := (1 : Int32)) hx hb dM_link_120 (by decide) ?_
        refine lv_iadd (pc := 121) hx hb dM_link_121 ?_
        have hg := jst_e hf; clear hf; obtain ⟨σ39, e40, hf⟩ := hg
        refine j_put (pc := 122) (v := .int ((σ36 100 7) + (1 : Int32))) (ws' := mC ca ad σ39) S hw inM tyM tyM_ok nmM 0 6 20 mg_0 rfl (by decide) k_616 rfl rfl rfl (Nat.le_of_ble_eq_true rfl) (by rw [e40]; exact mp_7) dM_link_122 (fun H locs hw => ?_)
        refine lv_aload_n (pc := 125) hx hb dM_link_125 rfl (lv_at hl 0 rfl) ?_
        refine j_get (pc := 126) (v := .int (σ39 100 7)) S hw inM 0 6 20 mg_0 rfl (by decide) k_616 rfl dM_link_126 ?_
        obtain rfl := jsm hf
        exact j_iret (pc := 129) S hw hr hlk dM_link_129
  · replace hf := jif hf hc
    refine lv_iconst (pc := 84) (v := (0 : Int32)) hx hb dM_link_84 (by decide) ?_
    obtain rfl := jsm hf
    exact j_iret (pc := 85) S hw hr hlk dM_link_85
set_option maxHeartbeats 4000000 in
set_option maxRecDepth 100000 in
theorem wmM_link_J39 {p : Program} {l : Launch} {e : Env} {s : State} {m : MethodId} {args : Array Value} {below : List Frame} {meth : Method} {c : Code} {D : va_G} {ca : Nat → ClassId} {ad : Nat → Nat} {A : Nat → Prop} (hA : ∀ q, s.heap.size ≤ q → A q) (S : CallFix p m c cM_link 6 s args jall RM) (hN : mN A s) (hr : meth.sig.returnType = some .int) (hlk : meth.locks = false) (out : Int32 × JS) (σ : JS) (x1 : Int32) (x2 : Int32) (ls : Array Slot) (hl : lv_has ls 6 [(0, .ref (ad 0)), (1, .int x1), (2, .int x2)]) (hw : jH D (mT ca) (mC ca ad σ) A s.heap s.heap [] s) (hf : mM_link_J39 σ x1 x2 = some out) : W p l e (headSpec wsM_link rmM_link).room s m args below meth c s.heap [] 0 0 (MQ below (jQi D (mT ca) (mC ca ad) A out.1 out.2) args s 0 0 A) (F0 m 39 ls [.ref (ad 0)]) := by
  have hx := S.1
  have hb := S.2.1
  unfold mM_link_J39 at hf
  refine lv_iconst (pc := 39) (v := (1 : Int32)) hx hb dM_link_39 (by decide) ?_
  refine lv_goto (pc := 40) (tgt := 74) hx hb dM_link_40 (by decide) ?_
  exact wmM_link_J74 hA S hN hr hlk out σ x1 x2 (1 : Int32) _ (lv_sub hl [0, 1, 2] rfl) hw hf
set_option maxHeartbeats 4000000 in
set_option maxRecDepth 100000 in
theorem wmM_link_J73 {p : Program} {l : Launch} {e : Env} {s : State} {m : MethodId} {args : Array Value} {below : List Frame} {meth : Method} {c : Code} {D : va_G} {ca : Nat → ClassId} {ad : Nat → Nat} {A : Nat → Prop} (hA : ∀ q, s.heap.size ≤ q → A q) (S : CallFix p m c cM_link 6 s args jall RM) (hN : mN A s) (hr : meth.sig.returnType = some .int) (hlk : meth.locks = false) (out : Int32 × JS) (σ : JS) (x1 : Int32) (x2 : Int32) (ls : Array Slot) (hl : lv_has ls 6 [(0, .ref (ad 0)), (1, .int x1), (2, .int x2)]) (hw : jH D (mT ca) (mC ca ad σ) A s.heap s.heap [] s) (hf : mM_link_J73 σ x1 x2 = some out) : W p l e (headSpec wsM_link rmM_link).room s m args below meth c s.heap [] 0 0 (MQ below (jQi D (mT ca) (mC ca ad) A out.1 out.2) args s 0 0 A) (F0 m 73 ls [.ref (ad 0)]) := by
  have hx := S.1
  have hb := S.2.1
  unfold mM_link_J73 at hf
  refine lv_iconst (pc := 73) (v := (0 : Int32)) hx hb dM_link_73 (by decide) ?_
  exact wmM_link_J74 hA S hN hr hlk out σ x1 x2 (0 : Int32) _ (lv_sub hl [0, 1, 2] rfl) hw hf
set_option maxHeartbeats 4000000 in
set_option maxRecDepth 100000 in
theorem wmM_link_J69 {p : Program} {l : Launch} {e : Env} {s : State} {m : MethodId} {args : Array Value} {below : List Frame} {meth : Method} {c : Code} {D : va_G} {ca : Nat → ClassId} {ad : Nat → Nat} {A : Nat → Prop} (hA : ∀ q, s.heap.size ≤ q → A q) (S : CallFix p m c cM_link 6 s args jall RM) (hN : mN A s) (hr : meth.sig.returnType = some .int) (hlk : meth.locks = false) (out : Int32 × JS) (σ : JS) (x1 : Int32) (x2 : Int32) (ls : Array Slot) (hl : lv_has ls 6 [(0, .ref (ad 0)), (1, .int x1), (2, .int x2)]) (hw : jH D (mT ca) (mC ca ad σ) A s.heap s.heap [] s) (hf : mM_link_J69 σ x1 x2 = some out) : W p l e (headSpec wsM_link rmM_link).room s m args below meth c s.heap [] 0 0 (MQ below (jQi D (mT ca) (mC ca ad) A out.1 out.2) args s 0 0 A) (F0 m 69 ls [.ref (ad 0)]) := by
  have hx := S.1
  have hb := S.2.1
  unfold mM_link_J69 at hf
  refine lv_iconst (pc := 69) (v := (2 : Int32)) hx hb dM_link_69 (by decide) ?_
  refine lv_goto (pc := 70) (tgt := 74) hx hb dM_link_70 (by decide) ?_
  exact wmM_link_J74 hA S hN hr hlk out σ x1 x2 (2 : Int32) _ (lv_sub hl [0, 1, 2] rfl) hw hf
set_option maxHeartbeats 4000000 in
set_option maxRecDepth 100000 in
theorem wmM_link_J57 {p : Program} {l : Launch} {e : Env} {s : State} {m : MethodId} {args : Array Value} {below : List Frame} {meth : Method} {c : Code} {D : va_G} {ca : Nat → ClassId} {ad : Nat → Nat} {A : Nat → Prop} (hA : ∀ q, s.heap.size ≤ q → A q) (S : CallFix p m c cM_link 6 s args jall RM) (hN : mN A s) (hr : meth.sig.returnType = some .int) (hlk : meth.locks = false) (out : Int32 × JS) (σ : JS) (x1 : Int32) (x2 : Int32) (ls : Array Slot) (hl : lv_has ls 6 [(0, .ref (ad 0)), (1, .int x1), (2, .int x2)]) (hw : jH D (mT ca) (mC ca ad σ) A s.heap s.heap [] s) (hf : mM_link_J57 σ x1 x2 = some out) : W p l e (headSpec wsM_link rmM_link).room s m args below meth c s.heap [] 0 0 (MQ below (jQi D (mT ca) (mC ca ad) A out.1 out.2) args s 0 0 A) (F0 m 57 ls [.ref (ad 0)]) := by
  have hx := S.1
  have hb := S.2.1
  unfold mM_link_J57 at hf
  refine lv_iload_n (pc := 57) hx hb dM_link_57 rfl (lv_at hl 2 rfl) ?_
  refine lv_iconst (pc := 58) (v := (3 : Int32)) hx hb dM_link_58 (by decide) ?_
  refine lv_icmp_ne (pc := 59) (tgt := 73) hx hb dM_link_59 (by decide) (fun hc => ?_) (fun hc => ?_)
  · replace hf := jif hf hc
    exact wmM_link_J73 hA S hN hr hlk out σ x1 x2 _ (lv_sub hl [0, 1, 2] rfl) hw hf
  · replace hf := jit hf hc
    refine lv_aload_n (pc := 62) hx hb dM_link_62 rfl (lv_at hl 0 rfl) ?_
    refine j_get (pc := 63) (v := .int (σ 100 5)) S hw inM 0 6 8 mg_0 rfl (by decide) k_604 rfl dM_link_63 ?_
    refine lv_if_eq (pc := 66) (tgt := 73) hx hb dM_link_66 (by decide) (fun hc => ?_) (fun hc => ?_)
    · replace hf := jit hf hc
      exact wmM_link_J73 hA S hN hr hlk out σ x1 x2 _ (lv_sub hl [0, 1, 2] rfl) hw hf
    · replace hf := jif hf hc
      exact wmM_link_J69 hA S hN hr hlk out σ x1 x2 _ (lv_sub hl [0, 1, 2] rfl) hw hf
set_option maxHeartbeats 4000000 in
set_option maxRecDepth 100000 in
theorem wmM_link_J24 {p : Program} {l : Launch} {e : Env} {s : State} {m : MethodId} {args : Array Value} {below : List Frame} {meth : Method} {c : Code} {D : va_G} {ca : Nat → ClassId} {ad : Nat → Nat} {A : Nat → Prop} (hA : ∀ q, s.heap.size ≤ q → A q) (S : CallFix p m c cM_link 6 s args jall RM) (hN : mN A s) (hr : meth.sig.returnType = some .int) (hlk : meth.locks = false) (out : Int32 × JS) (σ : JS) (x1 : Int32) (x2 : Int32) (y0 : Int32) (ls : Array Slot) (hl : lv_has ls 6 [(0, .ref (ad 0)), (1, .int x1), (2, .int x2)]) (hw : jH D (mT ca) (mC ca ad σ) A s.heap s.heap [] s) (hf : mM_link_J24 σ x1 x2 y0 = some out) : W p l e (headSpec wsM_link rmM_link).room s m args below meth c s.heap [] 0 0 (MQ below (jQi D (mT ca) (mC ca ad) A out.1 out.2) args s 0 0 A) (F0 m 24 ls [.int y0]) := by
  have hx := S.1
  have hb := S.2.1
  unfold mM_link_J24 at hf
  refine lv_istore_n (pc := 24) (lv' := [(3, .int y0), (0, .ref (ad 0)), (1, .int x1), (2, .int x2)]) hx hb dM_link_24 rfl hl (by decide) rfl (fun ls hl => ?_)
  refine lv_aload_n (pc := 25) hx hb dM_link_25 rfl (lv_at hl 1 rfl) ?_
  refine lv_iload_n (pc := 26) hx hb dM_link_26 rfl (lv_at hl 3 rfl) ?_
  refine lv_iconst (pc := 27) (v := (0 : Int32)) hx hb dM_link_27 (by decide) ?_
  refine lv_iconst (pc := 28) (v := (3 : Int32)) hx hb dM_link_28 (by decide) ?_
  have hg := jbn_e hf; clear hf; obtain ⟨q3, h4, hf⟩ := hg
  refine j_cpi (pc := 29) (v := q3) (va_runS (As := [.int x2, .int (0 : Int32), .int (3 : Int32)]) (rest := [.ref (ad 0)]) S (kM_within l D ca ad _ σ x2 (0 : Int32) (3 : Int32) q3 h4) (cwS 3 S.2.2.2.2 (jgS k_680 k_681 k_7 k_682) rfl rfl rfl (by decide +kernel) ⟨Nat.le_of_ble_eq_true rfl, Nat.le_of_ble_eq_true rfl⟩) (j_preS hw mN_b (mN_to hN hw hA)) rfl rfl hl.1 rfl (lv_room (Nat.le_of_ble_eq_true rfl)) dM_link_29 ⟨Nat.le_of_ble_eq_true rfl, Nat.le_of_ble_eq_true rfl⟩) ?_
  refine lv_if_eq (pc := 32) (tgt := 39) hx hb dM_link_32 (by decide) (fun hc => ?_) (fun hc => ?_)
  · replace hf := jit hf hc
    exact wmM_link_J39 hA S hN hr hlk out σ x1 x2 _ (lv_sub hl [1, 2, 3] rfl) hw hf
  · replace hf := jif hf hc
    refine lv_iload_n (pc := 35) hx hb dM_link_35 rfl (lv_at hl 0 rfl) ?_
    refine lv_if_ne (pc := 36) (tgt := 43) hx hb dM_link_36 (by decide) (fun hc => ?_) (fun hc => ?_)
    · replace hf := jif hf hc
      refine lv_iload_n (pc := 43) hx hb dM_link_43 rfl (lv_at hl 3 rfl) ?_
      refine lv_iconst (pc := 44) (v := (1 : Int32)) hx hb dM_link_44 (by decide) ?_
      refine lv_icmp_le (pc := 45) (tgt := 57) hx hb dM_link_45 (by decide) (fun hc => ?_) (fun hc => ?_)
      · replace hf := jit hf hc
        exact wmM_link_J57 hA S hN hr hlk out σ x1 x2 _ (lv_sub hl [1, 2, 3] rfl) hw hf
      · replace hf := jif hf hc
        refine lv_aload_n (pc := 48) hx hb dM_link_48 rfl (lv_at hl 1 rfl) ?_
        refine j_get (pc := 49) (v := .int (σ 100 7)) S hw inM 0 6 20 mg_0 rfl (by decide) k_616 rfl dM_link_49 ?_
        refine lv_bipush (pc := 52) (v := (16 : Int32)) hx hb dM_link_52 (by decide) ?_
        refine lv_icmp_eq (pc := 54) (tgt := 69) hx hb dM_link_54 (by decide) (fun hc => ?_) (fun hc => ?_)
        · replace hf := jit hf hc
          exact wmM_link_J69 hA S hN hr hlk out σ x1 x2 _ (lv_sub hl [1, 2, 3] rfl) hw hf
        · replace hf := jif hf hc
          exact wmM_link_J57 hA S hN hr hlk out σ x1 x2 _ (lv_sub hl [1, 2, 3] rfl) hw hf
    · replace hf := jit hf hc
      exact wmM_link_J39 hA S hN hr hlk out σ x1 x2 _ (lv_sub hl [1, 2, 3] rfl) hw hf
set_option maxHeartbeats 4000000 in
set_option maxRecDepth 100000 in
theorem bM_link {p : Program} {l : Launch} {e : Env} {s : State} {m : MethodId} {args : Array Value} {below : List Frame} {meth : Method} {c : Code} {D : va_G} {ca : Nat → ClassId} {ad : Nat → Nat} {A : Nat → Prop} (hA : ∀ q, s.heap.size ≤ q → A q) (S : CallFix p m c cM_link 6 s args jall RM) (hN : mN A s) (hr : meth.sig.returnType = some .int) (hlk : meth.locks = false) (out : Int32 × JS) (σ : JS) (x1 : Int32) (x2 : Int32) (ls : Array Slot) (hl : lv_has ls 6 [(0, .ref (ad 0)), (1, .int x1), (2, .int x2)]) (hw : jH D (mT ca) (mC ca ad σ) A s.heap s.heap [] s) (hf : mM_link σ x1 x2 = some out) : W p l e (headSpec wsM_link rmM_link).room s m args below meth c s.heap [] 0 0 (MQ below (jQi D (mT ca) (mC ca ad) A out.1 out.2) args s 0 0 A) (F0 m 0 ls []) := by
  have hx := S.1
  have hb := S.2.1
  unfold mM_link at hf
  refine lv_iload_n (pc := 0) hx hb dM_link_0 rfl (lv_at hl 2 rfl) ?_
  refine lv_iconst (pc := 1) (v := (3 : Int32)) hx hb dM_link_1 (by decide) ?_
  refine lv_icmp_ne (pc := 2) (tgt := 13) hx hb dM_link_2 (by decide) (fun hc => ?_) (fun hc => ?_)
  · replace hf := jif hf hc
    refine lv_iload_n (pc := 13) hx hb dM_link_13 rfl (lv_at hl 1 rfl) ?_
    refine lv_iconst (pc := 14) (v := (0 : Int32)) hx hb dM_link_14 (by decide) ?_
    refine lv_aload_n (pc := 15) hx hb dM_link_15 rfl (lv_at hl 0 rfl) ?_
    refine j_get (pc := 16) (v := .int (σ 100 7)) S hw inM 0 6 20 mg_0 rfl (by decide) k_616 rfl dM_link_16 ?_
    refine lv_iconst (pc := 19) (v := (1 : Int32)) hx hb dM_link_19 (by decide) ?_
    refine lv_isub (pc := 20) hx hb dM_link_20 ?_
    have hg := jbn_e hf; clear hf; obtain ⟨q1, h2, hf⟩ := hg
    refine j_cpi (pc := 21) (v := q1) (va_runS (As := [.int x1, .int (0 : Int32), .int ((σ 100 7) - (1 : Int32))]) (rest := []) S (kM_within l D ca ad _ σ x1 (0 : Int32) ((σ 100 7) - (1 : Int32)) q1 h2) (cwS 3 S.2.2.2.2 (jgS k_680 k_681 k_7 k_682) rfl rfl rfl (by decide +kernel) ⟨Nat.le_of_ble_eq_true rfl, Nat.le_of_ble_eq_true rfl⟩) (j_preS hw mN_b (mN_to hN hw hA)) rfl rfl hl.1 rfl (lv_room (Nat.le_of_ble_eq_true rfl)) dM_link_21 ⟨Nat.le_of_ble_eq_true rfl, Nat.le_of_ble_eq_true rfl⟩) ?_
    exact wmM_link_J24 hA S hN hr hlk out σ x1 x2 q1 _ (lv_sub hl [0, 1, 2] rfl) hw hf
  · replace hf := jit hf hc
    refine lv_aload_n (pc := 5) hx hb dM_link_5 rfl (lv_at hl 0 rfl) ?_
    refine lv_iload_n (pc := 6) hx hb dM_link_6 rfl (lv_at hl 1 rfl) ?_
    have hg := jbn_e hf; clear hf; obtain ⟨q41, h42, hf⟩ := hg
    refine j_cpi (pc := 7) (v := q41) (va_runV (As := [.int x1]) (rest := []) S (kM_isKept l D ca ad _ σ x1 q41 h42) (cwV 1 S.2.2.2.2 (jgV k_796 k_798 ks_33 k_7 k_799) rfl rfl rfl (by decide +kernel) ⟨Nat.le_of_ble_eq_true rfl, Nat.le_of_ble_eq_true rfl⟩) (j_preV (As := [.int x1]) hw mN_b (mN_to hN hw hA) rfl mg_0) rfl rfl hl.1 rfl (lv_room (Nat.le_of_ble_eq_true rfl)) dM_link_7 ⟨Nat.le_of_ble_eq_true rfl, Nat.le_of_ble_eq_true rfl⟩) ?_
    refine lv_goto (pc := 10) (tgt := 24) hx hb dM_link_10 (by decide) ?_
    exact wmM_link_J24 hA S hN hr hlk out σ x1 x2 q41 _ (lv_sub hl [0, 1, 2] rfl) hw hf
set_option maxHeartbeats 4000000 in
set_option maxRecDepth 100000 in
theorem kM_link (l : Launch) (D : va_G) (ca : Nat → ClassId) (ad : Nat → Nat) (sz : Nat) (σ : JS) (x1 : Int32) (x2 : Int32) (out : Int32 × JS) (hf : mM_link σ x1 x2 = some out) : Met l yM_link wsM_link rmM_link (jPre D (mT ca) (mC ca ad σ) (mN (va_A (mC ca ad σ) sz)) sz [.ref (ad 0), .int x1, .int x2]) (jQi D (mT ca) (mC ca ad) (va_A (mC ca ad σ) sz) out.1 out.2) 0 0 (va_A (mC ca ad σ) sz) := by
  refine Met.ofW (cc := cM_link) (maxL := 6) (ret := some .int) (by decide) rfl ?_
  intro p e s m args below meth c s₁ B hml hv
  obtain ⟨rfl, hsz, hP, hK, hD0, hN⟩ := hv
  subst hsz
  have hl := lv_entry [.ref (ad 0), .int x1, .int x2] (n := 6) (Nat.le_of_ble_eq_true rfl)
  rw [lg_entry_eq]
  generalize (lg_sl [.ref (ad 0), .int x1, .int x2] ++ List.replicate (6 - (lg_sl [.ref (ad 0), .int x1, .int x2]).length) Slot.unset).toArray = ls at hl ⊢
  exact bM_link (fun q h => Or.inr h) ⟨B.exec, B.bytes, hml, findClass_of_methodNamed B.named, fun w h => atoms_spec (ws := wsM_link) B.pre w (List.mem_cons_of_mem _ h)⟩ hN B.returns B.notSynchronized out σ x1 x2 ls hl ⟨hP, hD0.self, va_S.rf, hK⟩ hf

def rmM_ack : Room := { frames := 0, cells := 0, slots := 0, locals := 0 }
def mM_ack (σ : JS)  : Option (Int32 × JS) :=
  if (σ 100 5) = 0 then
  (jst (jw2 σ 100 0 (0 : Int32)) fun σ1 =>
  if (σ1 100 0) ≤ 0 then
  (jst (jw2 σ1 100 4 (σ1 100 8)) fun σ3 =>
  some ((σ3 100 4), σ3))
  else
  (some ((0 : Int32), σ1)))
  else
  (jst (jw2 σ 100 0 (1 : Int32)) fun σ5 =>
  if (σ5 100 0) ≤ 0 then
  (jst (jw2 σ5 100 4 (σ5 100 8)) fun σ7 =>
  some ((σ7 100 4), σ7))
  else
  (some ((0 : Int32), σ5)))
set_option maxHeartbeats 4000000 in
set_option maxRecDepth 100000 in
theorem bM_ack {p : Program} {l : Launch} {e : Env} {s : State} {m : MethodId} {args : Array Value} {below : List Frame} {meth : Method} {c : Code} {D : va_G} {ca : Nat → ClassId} {ad : Nat → Nat} {A : Nat → Prop} (hA : ∀ q, s.heap.size ≤ q → A q) (S : CallFix p m c cM_ack 1 s args jall RM) (hN : mN A s) (hr : meth.sig.returnType = some .int) (hlk : meth.locks = false) (out : Int32 × JS) (σ : JS)  (ls : Array Slot) (hl : lv_has ls 1 [(0, .ref (ad 0))]) (hw : jH D (mT ca) (mC ca ad σ) A s.heap s.heap [] s) (hf : mM_ack σ  = some out) : W p l e (headSpec wsM_ack rmM_ack).room s m args below meth c s.heap [] 0 0 (MQ below (jQi D (mT ca) (mC ca ad) A out.1 out.2) args s 0 0 A) (F0 m 0 ls []) := by
  have hx := S.1
  have hb := S.2.1
  unfold mM_ack at hf
  refine lv_aload_n (pc := 0) hx hb dM_ack_0 rfl (lv_at hl 0 rfl) ?_
  refine lv_aload_n (pc := 1) hx hb dM_ack_1 rfl (lv_at hl 0 rfl) ?_
  refine j_get (pc := 2) (v := .int (σ 100 5)) S hw inM 0 6 8 mg_0 rfl (by decide) k_604 rfl dM_ack_2 ?_
  refine lv_if_eq (pc := 5) (tgt := 12) hx hb dM_ack_5 (by decide) (fun hc => ?_) (fun hc => ?_)
  · replace hf := jit hf hc
    refine lv_iconst (pc := 12) (v := (0 : Int32)) hx hb dM_ack_12 (by decide) ?_
    have hg := jst_e hf; clear hf; obtain ⟨σ1, e2, hf⟩ := hg
    refine j_put (pc := 13) (v := .int (0 : Int32)) (ws' := mC ca ad σ1) S hw inM tyM tyM_ok nmM 0 6 0 mg_0 rfl (by decide) k_596 rfl rfl rfl (Nat.le_of_ble_eq_true rfl) (by rw [e2]; exact mp_0) dM_ack_13 (fun H locs hw => ?_)
    refine lv_aload_n (pc := 16) hx hb dM_ack_16 rfl (lv_at hl 0 rfl) ?_
    refine j_get (pc := 17) (v := .int (σ1 100 0)) S hw inM 0 6 0 mg_0 rfl (by decide) k_596 rfl dM_ack_17 ?_
    refine lv_if_le (pc := 20) (tgt := 25) hx hb dM_ack_20 (by decide) (fun hc => ?_) (fun hc => ?_)
    · replace hf := jit hf hc
      refine lv_aload_n (pc := 25) hx hb dM_ack_25 rfl (lv_at hl 0 rfl) ?_
      refine lv_aload_n (pc := 26) hx hb dM_ack_26 rfl (lv_at hl 0 rfl) ?_
      refine j_get (pc := 27) (v := .int (σ1 100 8)) S hw inM 0 6 23 mg_0 rfl (by decide) k_619 rfl dM_ack_27 ?_
      have hg := jst_e hf; clear hf; obtain ⟨σ3, e4, hf⟩ := hg
      refine j_put (pc := 30) (v := .int (σ1 100 8)) (ws' := mC ca ad σ3) S hw inM tyM tyM_ok nmM 0 6 7 mg_0 rfl (by decide) k_603 rfl rfl rfl (Nat.le_of_ble_eq_true rfl) (by rw [e4]; exact mp_4) dM_ack_30 (fun H locs hw => ?_)
      refine lv_aload_n (pc := 33) hx hb dM_ack_33 rfl (lv_at hl 0 rfl) ?_
      refine j_get (pc := 34) (v := .int (σ3 100 4)) S hw inM 0 6 7 mg_0 rfl (by decide) k_603 rfl dM_ack_34 ?_
      obtain rfl := jsm hf
      exact j_iret (pc := 37) S hw hr hlk dM_ack_37
    · replace hf := jif hf hc
      refine lv_iconst (pc := 23) (v := (0 : Int32)) hx hb dM_ack_23 (by decide) ?_
      obtain rfl := jsm hf
      exact j_iret (pc := 24) S hw hr hlk dM_ack_24
  · replace hf := jif hf hc
    refine lv_iconst (pc := 8) (v := (1 : Int32)) hx hb dM_ack_8 (by decide) ?_
    refine lv_goto (pc := 9) (tgt := 13) hx hb dM_ack_9 (by decide) ?_
    have hg := jst_e hf; clear hf; obtain ⟨σ5, e6, hf⟩ := hg
    refine j_put (pc := 13) (v := .int (1 : Int32)) (ws' := mC ca ad σ5) S hw inM tyM tyM_ok nmM 0 6 0 mg_0 rfl (by decide) k_596 rfl rfl rfl (Nat.le_of_ble_eq_true rfl) (by rw [e6]; exact mp_0) dM_ack_13 (fun H locs hw => ?_)
    refine lv_aload_n (pc := 16) hx hb dM_ack_16 rfl (lv_at hl 0 rfl) ?_
    refine j_get (pc := 17) (v := .int (σ5 100 0)) S hw inM 0 6 0 mg_0 rfl (by decide) k_596 rfl dM_ack_17 ?_
    refine lv_if_le (pc := 20) (tgt := 25) hx hb dM_ack_20 (by decide) (fun hc => ?_) (fun hc => ?_)
    · replace hf := jit hf hc
      refine lv_aload_n (pc := 25) hx hb dM_ack_25 rfl (lv_at hl 0 rfl) ?_
      refine lv_aload_n (pc := 26) hx hb dM_ack_26 rfl (lv_at hl 0 rfl) ?_
      refine j_get (pc := 27) (v := .int (σ5 100 8)) S hw inM 0 6 23 mg_0 rfl (by decide) k_619 rfl dM_ack_27 ?_
      have hg := jst_e hf; clear hf; obtain ⟨σ7, e8, hf⟩ := hg
      refine j_put (pc := 30) (v := .int (σ5 100 8)) (ws' := mC ca ad σ7) S hw inM tyM tyM_ok nmM 0 6 7 mg_0 rfl (by decide) k_603 rfl rfl rfl (Nat.le_of_ble_eq_true rfl) (by rw [e8]; exact mp_4) dM_ack_30 (fun H locs hw => ?_)
      refine lv_aload_n (pc := 33) hx hb dM_ack_33 rfl (lv_at hl 0 rfl) ?_
      refine j_get (pc := 34) (v := .int (σ7 100 4)) S hw inM 0 6 7 mg_0 rfl (by decide) k_603 rfl dM_ack_34 ?_
      obtain rfl := jsm hf
      exact j_iret (pc := 37) S hw hr hlk dM_ack_37
    · replace hf := jif hf hc
      refine lv_iconst (pc := 23) (v := (0 : Int32)) hx hb dM_ack_23 (by decide) ?_
      obtain rfl := jsm hf
      exact j_iret (pc := 24) S hw hr hlk dM_ack_24
set_option maxHeartbeats 4000000 in
set_option maxRecDepth 100000 in
theorem kM_ack (l : Launch) (D : va_G) (ca : Nat → ClassId) (ad : Nat → Nat) (sz : Nat) (σ : JS)  (out : Int32 × JS) (hf : mM_ack σ  = some out) : Met l yM_ack wsM_ack rmM_ack (jPre D (mT ca) (mC ca ad σ) (mN (va_A (mC ca ad σ) sz)) sz [.ref (ad 0)]) (jQi D (mT ca) (mC ca ad) (va_A (mC ca ad σ) sz) out.1 out.2) 0 0 (va_A (mC ca ad σ) sz) := by
  refine Met.ofW (cc := cM_ack) (maxL := 1) (ret := some .int) (by decide) rfl ?_
  intro p e s m args below meth c s₁ B hml hv
  obtain ⟨rfl, hsz, hP, hK, hD0, hN⟩ := hv
  subst hsz
  have hl := lv_entry [.ref (ad 0)] (n := 1) (Nat.le_of_ble_eq_true rfl)
  rw [lg_entry_eq]
  generalize (lg_sl [.ref (ad 0)] ++ List.replicate (1 - (lg_sl [.ref (ad 0)]).length) Slot.unset).toArray = ls at hl ⊢
  exact bM_ack (fun q h => Or.inr h) ⟨B.exec, B.bytes, hml, findClass_of_methodNamed B.named, fun w h => atoms_spec (ws := wsM_ack) B.pre w (List.mem_cons_of_mem _ h)⟩ hN B.returns B.notSynchronized out σ  ls hl ⟨hP, hD0.self, va_S.rf, hK⟩ hf

def rmM_takeOver : Room := { frames := 0, cells := 0, slots := 0, locals := 0 }
def mM_takeOver (σ : JS)  : Option (Int32 × JS) :=
  jst (jw2 σ 100 0 (0 : Int32)) fun σ1 =>
  jst (jw2 σ1 100 9 (1 : Int32)) fun σ3 =>
  some ((σ3 100 8), σ3)
set_option maxHeartbeats 4000000 in
set_option maxRecDepth 100000 in
theorem bM_takeOver {p : Program} {l : Launch} {e : Env} {s : State} {m : MethodId} {args : Array Value} {below : List Frame} {meth : Method} {c : Code} {D : va_G} {ca : Nat → ClassId} {ad : Nat → Nat} {A : Nat → Prop} (hA : ∀ q, s.heap.size ≤ q → A q) (S : CallFix p m c cM_takeOver 1 s args jall RM) (hN : mN A s) (hr : meth.sig.returnType = some .int) (hlk : meth.locks = false) (out : Int32 × JS) (σ : JS)  (ls : Array Slot) (hl : lv_has ls 1 [(0, .ref (ad 0))]) (hw : jH D (mT ca) (mC ca ad σ) A s.heap s.heap [] s) (hf : mM_takeOver σ  = some out) : W p l e (headSpec wsM_takeOver rmM_takeOver).room s m args below meth c s.heap [] 0 0 (MQ below (jQi D (mT ca) (mC ca ad) A out.1 out.2) args s 0 0 A) (F0 m 0 ls []) := by
  have hx := S.1
  have hb := S.2.1
  unfold mM_takeOver at hf
  refine lv_aload_n (pc := 0) hx hb dM_takeOver_0 rfl (lv_at hl 0 rfl) ?_
  refine lv_iconst (pc := 1) (v := (0 : Int32)) hx hb dM_takeOver_1 (by decide) ?_
  have hg := jst_e hf; clear hf; obtain ⟨σ1, e2, hf⟩ := hg
  refine j_put (pc := 2) (v := .int (0 : Int32)) (ws' := mC ca ad σ1) S hw inM tyM tyM_ok nmM 0 6 0 mg_0 rfl (by decide) k_596 rfl rfl rfl (Nat.le_of_ble_eq_true rfl) (by rw [e2]; exact mp_0) dM_takeOver_2 (fun H locs hw => ?_)
  refine lv_aload_n (pc := 5) hx hb dM_takeOver_5 rfl (lv_at hl 0 rfl) ?_
  refine lv_iconst (pc := 6) (v := (1 : Int32)) hx hb dM_takeOver_6 (by decide) ?_
  have hg := jst_e hf; clear hf; obtain ⟨σ3, e4, hf⟩ := hg
  refine j_put (pc := 7) (v := .int (1 : Int32)) (ws' := mC ca ad σ3) S hw inM tyM tyM_ok nmM 0 6 24 mg_0 rfl (by decide) k_620 rfl rfl rfl (Nat.le_of_ble_eq_true rfl) (by rw [e4]; exact mp_9) dM_takeOver_7 (fun H locs hw => ?_)
  refine lv_aload_n (pc := 10) hx hb dM_takeOver_10 rfl (lv_at hl 0 rfl) ?_
  refine j_get (pc := 11) (v := .int (σ3 100 8)) S hw inM 0 6 23 mg_0 rfl (by decide) k_619 rfl dM_takeOver_11 ?_
  obtain rfl := jsm hf
  exact j_iret (pc := 14) S hw hr hlk dM_takeOver_14
set_option maxHeartbeats 4000000 in
set_option maxRecDepth 100000 in
theorem kM_takeOver (l : Launch) (D : va_G) (ca : Nat → ClassId) (ad : Nat → Nat) (sz : Nat) (σ : JS)  (out : Int32 × JS) (hf : mM_takeOver σ  = some out) : Met l yM_takeOver wsM_takeOver rmM_takeOver (jPre D (mT ca) (mC ca ad σ) (mN (va_A (mC ca ad σ) sz)) sz [.ref (ad 0)]) (jQi D (mT ca) (mC ca ad) (va_A (mC ca ad σ) sz) out.1 out.2) 0 0 (va_A (mC ca ad σ) sz) := by
  refine Met.ofW (cc := cM_takeOver) (maxL := 1) (ret := some .int) (by decide) rfl ?_
  intro p e s m args below meth c s₁ B hml hv
  obtain ⟨rfl, hsz, hP, hK, hD0, hN⟩ := hv
  subst hsz
  have hl := lv_entry [.ref (ad 0)] (n := 1) (Nat.le_of_ble_eq_true rfl)
  rw [lg_entry_eq]
  generalize (lg_sl [.ref (ad 0)] ++ List.replicate (1 - (lg_sl [.ref (ad 0)]).length) Slot.unset).toArray = ls at hl ⊢
  exact bM_takeOver (fun q h => Or.inr h) ⟨B.exec, B.bytes, hml, findClass_of_methodNamed B.named, fun w h => atoms_spec (ws := wsM_takeOver) B.pre w (List.mem_cons_of_mem _ h)⟩ hN B.returns B.notSynchronized out σ  ls hl ⟨hP, hD0.self, va_S.rf, hK⟩ hf

