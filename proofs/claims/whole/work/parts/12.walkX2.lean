def rmJ_addEnd : Room := { frames := 1, cells := 0, slots := 0, locals := 22 }
def mJ_addEnd (σ : JS) (x1 : Int32) (x2 : Int32) : Option (JS) :=
  jst (jw2 σ 100 0 ((σ 100 0) + (1 : Int32))) fun σ1 =>
  jwr σ1 6 121 (σ1 100 0) x1 fun σ3 =>
  jwr σ3 7 121 (σ3 100 0) x2 fun σ6 =>
  jwr σ6 12 4 x2 (0 : Int32) fun σ9 =>
  jwr σ9 13 4 x2 (0 : Int32) fun σ12 =>
  jwr σ12 14 4 x2 (0 : Int32) fun σ15 =>
  jbn (mJ_noteOpenFiles σ15 ) fun q18 =>
  some q18
set_option maxHeartbeats 4000000 in
set_option maxRecDepth 100000 in
theorem bJ_addEnd {p : Program} {l : Launch} {e : Env} {s : State} {m : MethodId} {args : Array Value} {below : List Frame} {meth : Method} {c : Code} {D : va_G} {ca : Nat → ClassId} {ad : Nat → Nat} {A : Nat → Prop} (hA : ∀ q, s.heap.size ≤ q → A q) (S : CallFix p m c cJ_addEnd 3 s args jall RJ) (hN : xN A s) (hr : meth.sig.returnType = none) (hlk : meth.locks = false) (out : JS) (σ : JS) (x1 : Int32) (x2 : Int32) (ls : Array Slot) (hl : lv_has ls 3 [(0, .ref (ad 1)), (1, .int x1), (2, .int x2)]) (hw : jH D (xT ca) (xC ca ad σ) A s.heap s.heap [] s) (hf : mJ_addEnd σ x1 x2 = some out) : W p l e (headSpec wsJ_addEnd rmJ_addEnd).room s m args below meth c s.heap [] 0 0 (MQ below (jQv D (xT ca) (xC ca ad) A out) args s 0 0 A) (F0 m 0 ls []) := by
  have hx := S.1
  have hb := S.2.1
  unfold mJ_addEnd at hf
  refine lv_aload_n (pc := 0) hx hb dJ_addEnd_0 rfl (lv_at hl 0 rfl) ?_
  refine lv_dup (pc := 1) hx hb dJ_addEnd_1 rfl ?_
  refine j_get (pc := 2) (v := .int (σ 100 0)) S hw inJ 1 1 9 xg_1 rfl (by decide) k_49 rfl dJ_addEnd_2 ?_
  refine lv_iconst (pc := 5) (v := (1 : Int32)) hx hb dJ_addEnd_5 (by decide) ?_
  refine lv_iadd (pc := 6) hx hb dJ_addEnd_6 ?_
  have hg := jst_e hf; clear hf; obtain ⟨σ1, e2, hf⟩ := hg
  refine j_put (pc := 7) (v := .int ((σ 100 0) + (1 : Int32))) (ws' := xC ca ad σ1) S hw inJ tyJ tyJ_ok nmJ 1 1 9 xg_1 rfl (by decide) k_49 rfl rfl rfl (Nat.le_of_ble_eq_true rfl) (by rw [e2]; exact xp_0) dJ_addEnd_7 (fun H locs hw => ?_)
  refine lv_aload_n (pc := 10) hx hb dJ_addEnd_10 rfl (lv_at hl 0 rfl) ?_
  refine j_get (pc := 11) (v := .ref (ad 6)) S hw inJ 1 1 0 xg_1 rfl (by decide) k_29 rfl dJ_addEnd_11 ?_
  refine lv_aload_n (pc := 14) hx hb dJ_addEnd_14 rfl (lv_at hl 0 rfl) ?_
  refine j_get (pc := 15) (v := .int (σ1 100 0)) S hw inJ 1 1 9 xg_1 rfl (by decide) k_49 rfl dJ_addEnd_15 ?_
  refine lv_iload_n (pc := 18) hx hb dJ_addEnd_18 rfl (lv_at hl 1 rfl) ?_
  have hg := jwr_e hf; clear hf; obtain ⟨h4, σ3, e5, hf⟩ := hg
  refine j_iast (pc := 19) (ws' := xC ca ad σ3) S hw 6 0 xg_6 xt_6 h4 (by rw [e5]; exact xs_6) dJ_addEnd_19 (fun H locs hw => ?_)
  refine lv_aload_n (pc := 20) hx hb dJ_addEnd_20 rfl (lv_at hl 0 rfl) ?_
  refine j_get (pc := 21) (v := .ref (ad 7)) S hw inJ 1 1 1 xg_1 rfl (by decide) k_32 rfl dJ_addEnd_21 ?_
  refine lv_aload_n (pc := 24) hx hb dJ_addEnd_24 rfl (lv_at hl 0 rfl) ?_
  refine j_get (pc := 25) (v := .int (σ3 100 0)) S hw inJ 1 1 9 xg_1 rfl (by decide) k_49 rfl dJ_addEnd_25 ?_
  refine lv_iload_n (pc := 28) hx hb dJ_addEnd_28 rfl (lv_at hl 2 rfl) ?_
  have hg := jwr_e hf; clear hf; obtain ⟨h7, σ6, e8, hf⟩ := hg
  refine j_iast (pc := 29) (ws' := xC ca ad σ6) S hw 7 1 xg_7 xt_7 h7 (by rw [e8]; exact xs_7) dJ_addEnd_29 (fun H locs hw => ?_)
  refine lv_aload_n (pc := 30) hx hb dJ_addEnd_30 rfl (lv_at hl 0 rfl) ?_
  refine j_get (pc := 31) (v := .ref (ad 12)) S hw inJ 1 1 6 xg_1 rfl (by decide) k_45 rfl dJ_addEnd_31 ?_
  refine lv_iload_n (pc := 34) hx hb dJ_addEnd_34 rfl (lv_at hl 2 rfl) ?_
  refine lv_iconst (pc := 35) (v := (0 : Int32)) hx hb dJ_addEnd_35 (by decide) ?_
  have hg := jwr_e hf; clear hf; obtain ⟨h10, σ9, e11, hf⟩ := hg
  refine j_iast (pc := 36) (ws' := xC ca ad σ9) S hw 12 6 xg_12 xt_12 h10 (by rw [e11]; exact xs_12) dJ_addEnd_36 (fun H locs hw => ?_)
  refine lv_aload_n (pc := 37) hx hb dJ_addEnd_37 rfl (lv_at hl 0 rfl) ?_
  refine j_get (pc := 38) (v := .ref (ad 13)) S hw inJ 1 1 7 xg_1 rfl (by decide) k_47 rfl dJ_addEnd_38 ?_
  refine lv_iload_n (pc := 41) hx hb dJ_addEnd_41 rfl (lv_at hl 2 rfl) ?_
  refine lv_iconst (pc := 42) (v := (0 : Int32)) hx hb dJ_addEnd_42 (by decide) ?_
  have hg := jwr_e hf; clear hf; obtain ⟨h13, σ12, e14, hf⟩ := hg
  refine j_iast (pc := 43) (ws' := xC ca ad σ12) S hw 13 7 xg_13 xt_13 h13 (by rw [e14]; exact xs_13) dJ_addEnd_43 (fun H locs hw => ?_)
  refine lv_aload_n (pc := 44) hx hb dJ_addEnd_44 rfl (lv_at hl 0 rfl) ?_
  refine j_get (pc := 45) (v := .ref (ad 14)) S hw inJ 1 1 8 xg_1 rfl (by decide) k_48 rfl dJ_addEnd_45 ?_
  refine lv_iload_n (pc := 48) hx hb dJ_addEnd_48 rfl (lv_at hl 2 rfl) ?_
  refine lv_iconst (pc := 49) (v := (0 : Int32)) hx hb dJ_addEnd_49 (by decide) ?_
  have hg := jwr_e hf; clear hf; obtain ⟨h16, σ15, e17, hf⟩ := hg
  refine j_iast (pc := 50) (ws' := xC ca ad σ15) S hw 14 8 xg_14 xt_14 h16 (by rw [e17]; exact xs_14) dJ_addEnd_50 (fun H locs hw => ?_)
  refine lv_aload_n (pc := 51) hx hb dJ_addEnd_51 rfl (lv_at hl 0 rfl) ?_
  have hg := jbn_e hf; clear hf; obtain ⟨q18, h19, hf⟩ := hg
  refine j_callv (pc := 52) (C := xC ca ad) (σ' := q18) hw hA (va_runV (As := []) (rest := []) S (kJ_noteOpenFiles l D ca ad _ σ15  q18 h19) (cwV 0 S.2.2.2.2 (jgV k_402 k_404 ks_4 k_2 k_405) rfl rfl rfl (by decide +kernel) ⟨Nat.le_of_ble_eq_true rfl, Nat.le_of_ble_eq_true rfl⟩) (j_preV (As := []) hw xN_b (xN_to hN hw hA) rfl xg_1) rfl rfl hl.1 rfl (lv_room (Nat.le_of_ble_eq_true rfl)) dJ_addEnd_52 ⟨Nat.le_of_ble_eq_true rfl, Nat.le_of_ble_eq_true rfl⟩) (fun H locs hw => ?_)
  obtain rfl := jsm hf
  exact j_vret (pc := 55) S hw hr hlk dJ_addEnd_55
set_option maxHeartbeats 4000000 in
set_option maxRecDepth 100000 in
theorem kJ_addEnd (l : Launch) (D : va_G) (ca : Nat → ClassId) (ad : Nat → Nat) (sz : Nat) (σ : JS) (x1 : Int32) (x2 : Int32) (out : JS) (hf : mJ_addEnd σ x1 x2 = some out) : Met l yJ_addEnd wsJ_addEnd rmJ_addEnd (jPre D (xT ca) (xC ca ad σ) (xN (va_A (xC ca ad σ) sz)) sz [.ref (ad 1), .int x1, .int x2]) (jQv D (xT ca) (xC ca ad) (va_A (xC ca ad σ) sz) out) 0 0 (va_A (xC ca ad σ) sz) := by
  refine Met.ofW (cc := cJ_addEnd) (maxL := 3) (ret := none) (by decide) rfl ?_
  intro p e s m args below meth c s₁ B hml hv
  obtain ⟨rfl, hsz, hP, hK, hD0, hN⟩ := hv
  subst hsz
  have hl := lv_entry [.ref (ad 1), .int x1, .int x2] (n := 3) (Nat.le_of_ble_eq_true rfl)
  rw [lg_entry_eq]
  generalize (lg_sl [.ref (ad 1), .int x1, .int x2] ++ List.replicate (3 - (lg_sl [.ref (ad 1), .int x1, .int x2]).length) Slot.unset).toArray = ls at hl ⊢
  exact bJ_addEnd (fun q h => Or.inr h) ⟨B.exec, B.bytes, hml, findClass_of_methodNamed B.named, fun w h => atoms_spec (ws := wsJ_addEnd) B.pre w (List.mem_cons_of_mem _ h)⟩ hN B.returns B.notSynchronized out σ x1 x2 ls hl ⟨hP, hD0.self, va_S.rf, hK⟩ hf

def rmH_rollBack : Room := { frames := 4, cells := 0, slots := 0, locals := 87 }
def mH_rollBack_L18 (k : JS → Int32 → Option (JS)) (x1 : Int32) (x2 : Int32) : Nat → JS → Int32 → Option (JS)
  | 0, _, _ => none
  | n + 1, σ, x3 =>
    if x3 < x2 then
    (k σ x3)
    else
    (jrd σ 6 121 x3 fun v4 =>
    if v4 = (1 : Int32) then
    (jrd σ 7 121 x3 fun v7 =>
    if v7 = x1 then
    (jrd σ 8 121 x3 fun v10 =>
    jrd σ 9 121 x3 fun v13 =>
    jbn (mH_writeChange σ x1 v10 v13) fun q16 =>
    mH_rollBack_L18 k x1 x2 n q16 (x3 + (-1)))
    else
    (mH_rollBack_L18 k x1 x2 n σ (x3 + (-1))))
    else
    (mH_rollBack_L18 k x1 x2 n σ (x3 + (-1))))
def mH_rollBack (σ : JS) (x1 : Int32) : Option (JS) :=
  jrd σ 12 4 x1 fun v1 =>
  mH_rollBack_L18 (fun σ18 z19 =>
  jbn (mJ_addEnd σ18 (3 : Int32) x1) fun q20 =>
  some q20) x1 v1 999 σ (σ 100 0)
set_option maxHeartbeats 4000000 in
set_option maxRecDepth 100000 in
theorem wmH_rollBack_L18g {p : Program} {l : Launch} {e : Env} {s : State} {m : MethodId} {args : Array Value} {below : List Frame} {meth : Method} {c : Code} {D : va_G} {ca : Nat → ClassId} {ad : Nat → Nat} {A : Nat → Prop} (hA : ∀ q, s.heap.size ≤ q → A q) (S : CallFix p m c cH_rollBack 4 s args jall RH) (hN : xN A s) (hr : meth.sig.returnType = none) (hlk : meth.locks = false) (out : JS) (k : JS → Int32 → Option (JS)) (x1 : Int32) (x2 : Int32) (hk : ∀ (σ : JS) (x3 : Int32) (ls : Array Slot) (H : Heap) (locs : List Loc), lv_has ls 4 [(0, .ref (ad 0)), (1, .int x1), (2, .int x2), (3, .int x3)] → jH D (xT ca) (xC ca ad σ) A s.heap H locs s → k σ x3 = some out → W p l e (headSpec wsH_rollBack rmH_rollBack).room s m args below meth c H locs 0 0 (MQ below (jQv D (xT ca) (xC ca ad) A out) args s 0 0 A) (F0 m 78 ls [])) : ∀ (n : Nat) (σ : JS) (x3 : Int32) (ls : Array Slot) (H : Heap) (locs : List Loc), lv_has ls 4 [(0, .ref (ad 0)), (1, .int x1), (2, .int x2), (3, .int x3)] → jH D (xT ca) (xC ca ad σ) A s.heap H locs s → mH_rollBack_L18 k x1 x2 n σ x3 = some out → W p l e (headSpec wsH_rollBack rmH_rollBack).room s m args below meth c H locs 0 0 (MQ below (jQv D (xT ca) (xC ca ad) A out) args s 0 0 A) (F0 m 18 ls []) := by
  have hx := S.1
  have hb := S.2.1
  intro n
  induction n with
  | zero => intro σ x3 ls H locs hl hw hf; cases hf
  | succ n ih =>
    intro σ x3 ls H locs hl hw hf
    rw [mH_rollBack_L18] at hf
    refine lv_iload_n (pc := 18) hx hb dH_rollBack_18 rfl (lv_at hl 3 rfl) ?_
    refine lv_iload_n (pc := 19) hx hb dH_rollBack_19 rfl (lv_at hl 2 rfl) ?_
    refine lv_icmp_lt (pc := 20) (tgt := 78) hx hb dH_rollBack_20 (by decide) (fun hc => ?_) (fun hc => ?_)
    · replace hf := jit hf hc
      exact hk σ x3 _ _ _ (lv_sub hl [0, 1, 2, 3] rfl) hw hf
    · replace hf := jif hf hc
      refine lv_aload_n (pc := 23) hx hb dH_rollBack_23 rfl (lv_at hl 0 rfl) ?_
      refine j_get (pc := 24) (v := .ref (ad 1)) S hw inH 0 0 0 xg_0 rfl (by decide) k_162 rfl dH_rollBack_24 ?_
      refine j_get (pc := 27) (v := .ref (ad 6)) S hw inJ 1 1 0 xg_1 rfl (by decide) k_31 rfl dH_rollBack_27 ?_
      refine lv_iload_n (pc := 30) hx hb dH_rollBack_30 rfl (lv_at hl 3 rfl) ?_
      have hg := jrd_e hf; clear hf; obtain ⟨h5, v4, e6, hf⟩ := hg
      refine j_iald (pc := 31) S hw 6 0 xg_6 xt_6 h5 e6 dH_rollBack_31 ?_
      refine lv_iconst (pc := 32) (v := (1 : Int32)) hx hb dH_rollBack_32 (by decide) ?_
      refine lv_icmp_ne (pc := 33) (tgt := 72) hx hb dH_rollBack_33 (by decide) (fun hc => ?_) (fun hc => ?_)
      · replace hf := jif hf hc
        refine lv_iinc (pc := 72) (v := (x3 + (-1))) (k := 3) (lv' := [(3, .int (x3 + (-1))), (0, .ref (ad 0)), (1, .int x1), (2, .int x2)]) hx hb dH_rollBack_72 hl rfl (j_inc _ (by decide)) (by decide) rfl (fun ls hl => ?_)
        refine lv_goto (pc := 75) (tgt := 18) hx hb dH_rollBack_75 (by decide) ?_
        exact ih σ (x3 + (-1)) _ _ _ (lv_sub hl [1, 2, 3, 0] rfl) hw hf
      · replace hf := jit hf hc
        refine lv_aload_n (pc := 36) hx hb dH_rollBack_36 rfl (lv_at hl 0 rfl) ?_
        refine j_get (pc := 37) (v := .ref (ad 1)) S hw inH 0 0 0 xg_0 rfl (by decide) k_162 rfl dH_rollBack_37 ?_
        refine j_get (pc := 40) (v := .ref (ad 7)) S hw inJ 1 1 1 xg_1 rfl (by decide) k_34 rfl dH_rollBack_40 ?_
        refine lv_iload_n (pc := 43) hx hb dH_rollBack_43 rfl (lv_at hl 3 rfl) ?_
        have hg := jrd_e hf; clear hf; obtain ⟨h8, v7, e9, hf⟩ := hg
        refine j_iald (pc := 44) S hw 7 1 xg_7 xt_7 h8 e9 dH_rollBack_44 ?_
        refine lv_iload_n (pc := 45) hx hb dH_rollBack_45 rfl (lv_at hl 1 rfl) ?_
        refine lv_icmp_ne (pc := 46) (tgt := 72) hx hb dH_rollBack_46 (by decide) (fun hc => ?_) (fun hc => ?_)
        · replace hf := jif hf hc
          refine lv_iinc (pc := 72) (v := (x3 + (-1))) (k := 3) (lv' := [(3, .int (x3 + (-1))), (0, .ref (ad 0)), (1, .int x1), (2, .int x2)]) hx hb dH_rollBack_72 hl rfl (j_inc _ (by decide)) (by decide) rfl (fun ls hl => ?_)
          refine lv_goto (pc := 75) (tgt := 18) hx hb dH_rollBack_75 (by decide) ?_
          exact ih σ (x3 + (-1)) _ _ _ (lv_sub hl [1, 2, 3, 0] rfl) hw hf
        · replace hf := jit hf hc
          refine lv_aload_n (pc := 49) hx hb dH_rollBack_49 rfl (lv_at hl 0 rfl) ?_
          refine lv_iload_n (pc := 50) hx hb dH_rollBack_50 rfl (lv_at hl 1 rfl) ?_
          refine lv_aload_n (pc := 51) hx hb dH_rollBack_51 rfl (lv_at hl 0 rfl) ?_
          refine j_get (pc := 52) (v := .ref (ad 1)) S hw inH 0 0 0 xg_0 rfl (by decide) k_162 rfl dH_rollBack_52 ?_
          refine j_get (pc := 55) (v := .ref (ad 8)) S hw inJ 1 1 2 xg_1 rfl (by decide) k_37 rfl dH_rollBack_55 ?_
          refine lv_iload_n (pc := 58) hx hb dH_rollBack_58 rfl (lv_at hl 3 rfl) ?_
          have hg := jrd_e hf; clear hf; obtain ⟨h11, v10, e12, hf⟩ := hg
          refine j_iald (pc := 59) S hw 8 2 xg_8 xt_8 h11 e12 dH_rollBack_59 ?_
          refine lv_aload_n (pc := 60) hx hb dH_rollBack_60 rfl (lv_at hl 0 rfl) ?_
          refine j_get (pc := 61) (v := .ref (ad 1)) S hw inH 0 0 0 xg_0 rfl (by decide) k_162 rfl dH_rollBack_61 ?_
          refine j_get (pc := 64) (v := .ref (ad 9)) S hw inJ 1 1 3 xg_1 rfl (by decide) k_40 rfl dH_rollBack_64 ?_
          refine lv_iload_n (pc := 67) hx hb dH_rollBack_67 rfl (lv_at hl 3 rfl) ?_
          have hg := jrd_e hf; clear hf; obtain ⟨h14, v13, e15, hf⟩ := hg
          refine j_iald (pc := 68) S hw 9 3 xg_9 xt_9 h14 e15 dH_rollBack_68 ?_
          have hg := jbn_e hf; clear hf; obtain ⟨q16, h17, hf⟩ := hg
          refine j_callv (pc := 69) (C := xC ca ad) (σ' := q16) hw hA (va_runV (As := [.int x1, .int v10, .int v13]) (rest := []) S (kH_writeChange l D ca ad _ σ x1 v10 v13 q16 h17) (cwV 3 S.2.2.2.2 (jgV k_393 k_395 ks_7 k_1 k_396) rfl rfl rfl (by decide +kernel) ⟨Nat.le_of_ble_eq_true rfl, Nat.le_of_ble_eq_true rfl⟩) (j_preV (As := [.int x1, .int v10, .int v13]) hw xN_b (xN_to hN hw hA) rfl xg_0) rfl rfl hl.1 rfl (lv_room (Nat.le_of_ble_eq_true rfl)) dH_rollBack_69 ⟨Nat.le_of_ble_eq_true rfl, Nat.le_of_ble_eq_true rfl⟩) (fun H locs hw => ?_)
          refine lv_iinc (pc := 72) (v := (x3 + (-1))) (k := 3) (lv' := [(3, .int (x3 + (-1))), (0, .ref (ad 0)), (1, .int x1), (2, .int x2)]) hx hb dH_rollBack_72 hl rfl (j_inc _ (by decide)) (by decide) rfl (fun ls hl => ?_)
          refine lv_goto (pc := 75) (tgt := 18) hx hb dH_rollBack_75 (by decide) ?_
          exact ih q16 (x3 + (-1)) _ _ _ (lv_sub hl [1, 2, 3, 0] rfl) hw hf
set_option maxHeartbeats 4000000 in
set_option maxRecDepth 100000 in
theorem bH_rollBack {p : Program} {l : Launch} {e : Env} {s : State} {m : MethodId} {args : Array Value} {below : List Frame} {meth : Method} {c : Code} {D : va_G} {ca : Nat → ClassId} {ad : Nat → Nat} {A : Nat → Prop} (hA : ∀ q, s.heap.size ≤ q → A q) (S : CallFix p m c cH_rollBack 4 s args jall RH) (hN : xN A s) (hr : meth.sig.returnType = none) (hlk : meth.locks = false) (out : JS) (σ : JS) (x1 : Int32) (ls : Array Slot) (hl : lv_has ls 4 [(0, .ref (ad 0)), (1, .int x1)]) (hw : jH D (xT ca) (xC ca ad σ) A s.heap s.heap [] s) (hf : mH_rollBack σ x1 = some out) : W p l e (headSpec wsH_rollBack rmH_rollBack).room s m args below meth c s.heap [] 0 0 (MQ below (jQv D (xT ca) (xC ca ad) A out) args s 0 0 A) (F0 m 0 ls []) := by
  have hx := S.1
  have hb := S.2.1
  unfold mH_rollBack at hf
  refine lv_aload_n (pc := 0) hx hb dH_rollBack_0 rfl (lv_at hl 0 rfl) ?_
  refine j_get (pc := 1) (v := .ref (ad 1)) S hw inH 0 0 0 xg_0 rfl (by decide) k_162 rfl dH_rollBack_1 ?_
  refine j_get (pc := 4) (v := .ref (ad 12)) S hw inJ 1 1 6 xg_1 rfl (by decide) k_46 rfl dH_rollBack_4 ?_
  refine lv_iload_n (pc := 7) hx hb dH_rollBack_7 rfl (lv_at hl 1 rfl) ?_
  have hg := jrd_e hf; clear hf; obtain ⟨h2, v1, e3, hf⟩ := hg
  refine j_iald (pc := 8) S hw 12 6 xg_12 xt_12 h2 e3 dH_rollBack_8 ?_
  refine lv_istore_n (pc := 9) (lv' := [(2, .int v1), (0, .ref (ad 0)), (1, .int x1)]) hx hb dH_rollBack_9 rfl hl (by decide) rfl (fun ls hl => ?_)
  refine lv_aload_n (pc := 10) hx hb dH_rollBack_10 rfl (lv_at hl 1 rfl) ?_
  refine j_get (pc := 11) (v := .ref (ad 1)) S hw inH 0 0 0 xg_0 rfl (by decide) k_162 rfl dH_rollBack_11 ?_
  refine j_get (pc := 14) (v := .int (σ 100 0)) S hw inJ 1 1 9 xg_1 rfl (by decide) k_50 rfl dH_rollBack_14 ?_
  refine lv_istore_n (pc := 17) (lv' := [(3, .int (σ 100 0)), (2, .int v1), (0, .ref (ad 0)), (1, .int x1)]) hx hb dH_rollBack_17 rfl hl (by decide) rfl (fun ls hl => ?_)
  refine wmH_rollBack_L18g hA S hN hr hlk out _ x1 v1 (fun σ18 z19 ls H locs hl hw hf => ?_) 999 σ (σ 100 0) _ _ _ (lv_sub hl [2, 3, 1, 0] rfl) hw hf
  try dsimp only at hf
  refine lv_aload_n (pc := 78) hx hb dH_rollBack_78 rfl (lv_at hl 0 rfl) ?_
  refine j_get (pc := 79) (v := .ref (ad 1)) S hw inH 0 0 0 xg_0 rfl (by decide) k_162 rfl dH_rollBack_79 ?_
  refine lv_iconst (pc := 82) (v := (3 : Int32)) hx hb dH_rollBack_82 (by decide) ?_
  refine lv_iload_n (pc := 83) hx hb dH_rollBack_83 rfl (lv_at hl 1 rfl) ?_
  have hg := jbn_e hf; clear hf; obtain ⟨q20, h21, hf⟩ := hg
  refine j_callv (pc := 84) (C := xC ca ad) (σ' := q20) hw hA (va_runV (As := [.int (3 : Int32), .int x1]) (rest := []) S (kJ_addEnd l D ca ad _ σ18 (3 : Int32) x1 q20 h21) (cwV 2 S.2.2.2.2 (jgV k_425 k_426 k_427 k_2 k_428) rfl rfl rfl (by decide +kernel) ⟨Nat.le_of_ble_eq_true rfl, Nat.le_of_ble_eq_true rfl⟩) (j_preV (As := [.int (3 : Int32), .int x1]) hw xN_b (xN_to hN hw hA) rfl xg_1) rfl rfl hl.1 rfl (lv_room (Nat.le_of_ble_eq_true rfl)) dH_rollBack_84 ⟨Nat.le_of_ble_eq_true rfl, Nat.le_of_ble_eq_true rfl⟩) (fun H locs hw => ?_)
  obtain rfl := jsm hf
  exact j_vret (pc := 87) S hw hr hlk dH_rollBack_87
set_option maxHeartbeats 4000000 in
set_option maxRecDepth 100000 in
theorem kH_rollBack (l : Launch) (D : va_G) (ca : Nat → ClassId) (ad : Nat → Nat) (sz : Nat) (σ : JS) (x1 : Int32) (out : JS) (hf : mH_rollBack σ x1 = some out) : Met l yH_rollBack wsH_rollBack rmH_rollBack (jPre D (xT ca) (xC ca ad σ) (xN (va_A (xC ca ad σ) sz)) sz [.ref (ad 0), .int x1]) (jQv D (xT ca) (xC ca ad) (va_A (xC ca ad σ) sz) out) 0 0 (va_A (xC ca ad σ) sz) := by
  refine Met.ofW (cc := cH_rollBack) (maxL := 4) (ret := none) (by decide) rfl ?_
  intro p e s m args below meth c s₁ B hml hv
  obtain ⟨rfl, hsz, hP, hK, hD0, hN⟩ := hv
  subst hsz
  have hl := lv_entry [.ref (ad 0), .int x1] (n := 4) (Nat.le_of_ble_eq_true rfl)
  rw [lg_entry_eq]
  generalize (lg_sl [.ref (ad 0), .int x1] ++ List.replicate (4 - (lg_sl [.ref (ad 0), .int x1]).length) Slot.unset).toArray = ls at hl ⊢
  exact bH_rollBack (fun q h => Or.inr h) ⟨B.exec, B.bytes, hml, findClass_of_methodNamed B.named, fun w h => atoms_spec (ws := wsH_rollBack) B.pre w (List.mem_cons_of_mem _ h)⟩ hN B.returns B.notSynchronized out σ x1 ls hl ⟨hP, hD0.self, va_S.rf, hK⟩ hf

def rmnH_end : Room := { frames := 6, cells := 0, slots := 0, locals := 110 }
def rmxH_end : Room := { frames := 6, cells := 1, slots := 6, locals := 110 }
def mH_end (σ : JS) (x1 : Int32) (x2 : Int32) : Option (Nat × Int32 × JS) :=
  jbn (mH_isJob σ x1) fun q1 =>
  if q1 = 0 then
  (some (1, 0, σ))
  else
  (if (σ 100 8) = 0 then
  (some (2, 0, σ))
  else
  (jbn (mJ_isCycleOpen σ x1) fun q3 =>
  if q3 = 0 then
  (some (2, 0, σ))
  else
  (if x2 = 0 then
  (jbn (mH_rollBack σ x1) fun q5 =>
  some (0, (q5 100 0), q5))
  else
  (jbn (mJ_addEnd σ (2 : Int32) x1) fun q7 =>
  some (0, (q7 100 0), q7)))))
set_option maxHeartbeats 4000000 in
set_option maxRecDepth 100000 in
theorem bnH_end {p : Program} {l : Launch} {e : Env} {s : State} {m : MethodId} {args : Array Value} {below : List Frame} {meth : Method} {c : Code} {D : va_G} {ca : Nat → ClassId} {ad : Nat → Nat} {A : Nat → Prop} (hA : ∀ q, s.heap.size ≤ q → A q) (S : CallFix p m c cH_end 3 s args jall RH) (hN : xN A s) (hr : meth.sig.returnType = some .int) (hlk : meth.locks = false) (vo : Int32) (σo : JS) (σ : JS) (x1 : Int32) (x2 : Int32) (ls : Array Slot) (hl : lv_has ls 3 [(0, .ref (ad 0)), (1, .int x1), (2, .int x2)]) (hw : jH D (xT ca) (xC ca ad σ) A s.heap s.heap [] s) (hf : mH_end σ x1 x2 = some (0, vo, σo)) : W p l e (headSpec wsH_end rmnH_end).room s m args below meth c s.heap [] 0 0 (MQ below (jQi D (xT ca) (xC ca ad) A vo σo) args s 0 0 A) (F0 m 0 ls []) := by
  have hx := S.1
  have hb := S.2.1
  unfold mH_end at hf
  refine lv_aload_n (pc := 0) hx hb dH_end_0 rfl (lv_at hl 0 rfl) ?_
  refine lv_iload_n (pc := 1) hx hb dH_end_1 rfl (lv_at hl 1 rfl) ?_
  have hg := jbn_e hf; clear hf; obtain ⟨q1, h2, hf⟩ := hg
  refine j_cpi (pc := 2) (v := q1) (va_runV (As := [.int x1]) (rest := []) S (kH_isJob l D ca ad _ σ x1 q1 h2) (cwV 1 S.2.2.2.2 (jgV k_362 k_364 ks_5 k_1 k_365) rfl rfl rfl (by decide +kernel) ⟨Nat.le_of_ble_eq_true rfl, Nat.le_of_ble_eq_true rfl⟩) (j_preV (As := [.int x1]) hw xN_b (xN_to hN hw hA) rfl xg_0) rfl rfl hl.1 rfl (lv_room (Nat.le_of_ble_eq_true rfl)) dH_end_2 ⟨Nat.le_of_ble_eq_true rfl, Nat.le_of_ble_eq_true rfl⟩) ?_
  refine lv_if_ne (pc := 5) (tgt := 16) hx hb dH_end_5 (by decide) (fun hc => ?_) (fun hc => ?_)
  · replace hf := jif hf hc
    refine lv_aload_n (pc := 16) hx hb dH_end_16 rfl (lv_at hl 0 rfl) ?_
    refine j_get (pc := 17) (v := .int (σ 100 8)) S hw inH 0 0 11 xg_0 rfl (by decide) k_173 rfl dH_end_17 ?_
    refine lv_if_eq (pc := 20) (tgt := 34) hx hb dH_end_20 (by decide) (fun hc => ?_) (fun hc => ?_)
    · replace hf := jit hf hc
      exact (jo2 hf).elim
    · replace hf := jif hf hc
      refine lv_aload_n (pc := 23) hx hb dH_end_23 rfl (lv_at hl 0 rfl) ?_
      refine j_get (pc := 24) (v := .ref (ad 1)) S hw inH 0 0 0 xg_0 rfl (by decide) k_162 rfl dH_end_24 ?_
      refine lv_iload_n (pc := 27) hx hb dH_end_27 rfl (lv_at hl 1 rfl) ?_
      have hg := jbn_e hf; clear hf; obtain ⟨q3, h4, hf⟩ := hg
      refine j_cpi (pc := 28) (v := q3) (va_runV (As := [.int x1]) (rest := []) S (kJ_isCycleOpen l D ca ad _ σ x1 q3 h4) (cwV 1 S.2.2.2.2 (jgV k_424 k_375 k_376 k_2 k_377) rfl rfl rfl (by decide +kernel) ⟨Nat.le_of_ble_eq_true rfl, Nat.le_of_ble_eq_true rfl⟩) (j_preV (As := [.int x1]) hw xN_b (xN_to hN hw hA) rfl xg_1) rfl rfl hl.1 rfl (lv_room (Nat.le_of_ble_eq_true rfl)) dH_end_28 ⟨Nat.le_of_ble_eq_true rfl, Nat.le_of_ble_eq_true rfl⟩) ?_
      refine lv_if_ne (pc := 31) (tgt := 42) hx hb dH_end_31 (by decide) (fun hc => ?_) (fun hc => ?_)
      · replace hf := jif hf hc
        refine lv_iload_n (pc := 42) hx hb dH_end_42 rfl (lv_at hl 2 rfl) ?_
        refine lv_if_eq (pc := 43) (tgt := 58) hx hb dH_end_43 (by decide) (fun hc => ?_) (fun hc => ?_)
        · replace hf := jit hf hc
          refine lv_aload_n (pc := 58) hx hb dH_end_58 rfl (lv_at hl 0 rfl) ?_
          refine lv_iload_n (pc := 59) hx hb dH_end_59 rfl (lv_at hl 1 rfl) ?_
          have hg := jbn_e hf; clear hf; obtain ⟨q5, h6, hf⟩ := hg
          refine j_callv (pc := 60) (C := xC ca ad) (σ' := q5) hw hA (va_runV (As := [.int x1]) (rest := []) S (kH_rollBack l D ca ad _ σ x1 q5 h6) (cwV 1 S.2.2.2.2 (jgV k_429 k_431 ks_8 k_1 k_432) rfl rfl rfl (by decide +kernel) ⟨Nat.le_of_ble_eq_true rfl, Nat.le_of_ble_eq_true rfl⟩) (j_preV (As := [.int x1]) hw xN_b (xN_to hN hw hA) rfl xg_0) rfl rfl hl.1 rfl (lv_room (Nat.le_of_ble_eq_true rfl)) dH_end_60 ⟨Nat.le_of_ble_eq_true rfl, Nat.le_of_ble_eq_true rfl⟩) (fun H locs hw => ?_)
          refine lv_aload_n (pc := 63) hx hb dH_end_63 rfl (lv_at hl 0 rfl) ?_
          refine j_get (pc := 64) (v := .ref (ad 1)) S hw inH 0 0 0 xg_0 rfl (by decide) k_162 rfl dH_end_64 ?_
          refine j_get (pc := 67) (v := .int (q5 100 0)) S hw inJ 1 1 9 xg_1 rfl (by decide) k_50 rfl dH_end_67 ?_
          obtain ⟨rfl, rfl⟩ := jo0 hf
          exact j_iret (pc := 70) S hw hr hlk dH_end_70
        · replace hf := jif hf hc
          refine lv_aload_n (pc := 46) hx hb dH_end_46 rfl (lv_at hl 0 rfl) ?_
          refine j_get (pc := 47) (v := .ref (ad 1)) S hw inH 0 0 0 xg_0 rfl (by decide) k_162 rfl dH_end_47 ?_
          refine lv_iconst (pc := 50) (v := (2 : Int32)) hx hb dH_end_50 (by decide) ?_
          refine lv_iload_n (pc := 51) hx hb dH_end_51 rfl (lv_at hl 1 rfl) ?_
          have hg := jbn_e hf; clear hf; obtain ⟨q7, h8, hf⟩ := hg
          refine j_callv (pc := 52) (C := xC ca ad) (σ' := q7) hw hA (va_runV (As := [.int (2 : Int32), .int x1]) (rest := []) S (kJ_addEnd l D ca ad _ σ (2 : Int32) x1 q7 h8) (cwV 2 S.2.2.2.2 (jgV k_425 k_426 k_427 k_2 k_428) rfl rfl rfl (by decide +kernel) ⟨Nat.le_of_ble_eq_true rfl, Nat.le_of_ble_eq_true rfl⟩) (j_preV (As := [.int (2 : Int32), .int x1]) hw xN_b (xN_to hN hw hA) rfl xg_1) rfl rfl hl.1 rfl (lv_room (Nat.le_of_ble_eq_true rfl)) dH_end_52 ⟨Nat.le_of_ble_eq_true rfl, Nat.le_of_ble_eq_true rfl⟩) (fun H locs hw => ?_)
          refine lv_goto (pc := 55) (tgt := 63) hx hb dH_end_55 (by decide) ?_
          refine lv_aload_n (pc := 63) hx hb dH_end_63 rfl (lv_at hl 0 rfl) ?_
          refine j_get (pc := 64) (v := .ref (ad 1)) S hw inH 0 0 0 xg_0 rfl (by decide) k_162 rfl dH_end_64 ?_
          refine j_get (pc := 67) (v := .int (q7 100 0)) S hw inJ 1 1 9 xg_1 rfl (by decide) k_50 rfl dH_end_67 ?_
          obtain ⟨rfl, rfl⟩ := jo0 hf
          exact j_iret (pc := 70) S hw hr hlk dH_end_70
      · replace hf := jit hf hc
        exact (jo2 hf).elim
  · replace hf := jit hf hc
    exact (jo2 hf).elim
set_option maxHeartbeats 4000000 in
set_option maxRecDepth 100000 in
theorem knH_end (l : Launch) (D : va_G) (ca : Nat → ClassId) (ad : Nat → Nat) (sz : Nat) (σ : JS) (x1 : Int32) (x2 : Int32) (vo : Int32) (σo : JS) (hf : mH_end σ x1 x2 = some (0, vo, σo)) : Met l yH_end wsH_end rmnH_end (jPre D (xT ca) (xC ca ad σ) (xN (va_A (xC ca ad σ) sz)) sz [.ref (ad 0), .int x1, .int x2]) (jQi D (xT ca) (xC ca ad) (va_A (xC ca ad σ) sz) vo σo) 0 0 (va_A (xC ca ad σ) sz) := by
  refine Met.ofW (cc := cH_end) (maxL := 3) (ret := some .int) (by decide) rfl ?_
  intro p e s m args below meth c s₁ B hml hv
  obtain ⟨rfl, hsz, hP, hK, hD0, hN⟩ := hv
  subst hsz
  have hl := lv_entry [.ref (ad 0), .int x1, .int x2] (n := 3) (Nat.le_of_ble_eq_true rfl)
  rw [lg_entry_eq]
  generalize (lg_sl [.ref (ad 0), .int x1, .int x2] ++ List.replicate (3 - (lg_sl [.ref (ad 0), .int x1, .int x2]).length) Slot.unset).toArray = ls at hl ⊢
  exact bnH_end (fun q h => Or.inr h) ⟨B.exec, B.bytes, hml, findClass_of_methodNamed B.named, fun w h => atoms_spec (ws := wsH_end) B.pre w (List.mem_cons_of_mem _ h)⟩ hN B.returns B.notSynchronized vo σo σ x1 x2 ls hl ⟨hP, hD0.self, va_S.rf, hK⟩ hf
set_option maxHeartbeats 4000000 in
set_option maxRecDepth 100000 in
theorem bxH_end {p : Program} {l : Launch} {e : Env} {s : State} {m : MethodId} {args : Array Value} {below : List Frame} {meth : Method} {c : Code} {D : va_G} {ca : Nat → ClassId} {ad : Nat → Nat} {A : Nat → Prop} (hA : ∀ q, s.heap.size ≤ q → A q) (S : CallFix p m c cH_end 3 s args jall RH) (hN : xN A s) (hr : meth.sig.returnType = some .int) (hlk : meth.locks = false) (hl9 : l.stackTraces = false) (ht9 : ∀ x ∈ c.exceptionTable.toList, False) (ko : Nat) (vo : Int32) (σo : JS) (hko : ¬ ko = 0) (σ : JS) (x1 : Int32) (x2 : Int32) (ls : Array Slot) (hl : lv_has ls 3 [(0, .ref (ad 0)), (1, .int x1), (2, .int x2)]) (hw : jH D (xT ca) (xC ca ad σ) A s.heap s.heap [] s) (hf : mH_end σ x1 x2 = some (ko, vo, σo)) : W p l e (headSpec wsH_end rmxH_end).room s m args below meth c s.heap [] 0 0 (jxQ below s (jE ko) (jB D (xT ca) (xC ca ad) A σo) A 1 6) (F0 m 0 ls []) := by
  have hx := S.1
  have hb := S.2.1
  unfold mH_end at hf
  refine lv_aload_n (pc := 0) hx hb dH_end_0 rfl (lv_at hl 0 rfl) ?_
  refine lv_iload_n (pc := 1) hx hb dH_end_1 rfl (lv_at hl 1 rfl) ?_
  have hg := jbn_e hf; clear hf; obtain ⟨q1, h2, hf⟩ := hg
  refine j_cpi (pc := 2) (v := q1) (va_runV (As := [.int x1]) (rest := []) S (kH_isJob l D ca ad _ σ x1 q1 h2) (cwV 1 S.2.2.2.2 (jgV k_362 k_364 ks_5 k_1 k_365) rfl rfl rfl (by decide +kernel) ⟨Nat.le_of_ble_eq_true rfl, Nat.le_of_ble_eq_true rfl⟩) (j_preV (As := [.int x1]) hw xN_b (xN_to hN hw hA) rfl xg_0) rfl rfl hl.1 rfl (lv_room (Nat.le_of_ble_eq_true rfl)) dH_end_2 ⟨Nat.le_of_ble_eq_true rfl, Nat.le_of_ble_eq_true rfl⟩) ?_
  refine lv_if_ne (pc := 5) (tgt := 16) hx hb dH_end_5 (by decide) (fun hc => ?_) (fun hc => ?_)
  · replace hf := jif hf hc
    refine lv_aload_n (pc := 16) hx hb dH_end_16 rfl (lv_at hl 0 rfl) ?_
    refine j_get (pc := 17) (v := .int (σ 100 8)) S hw inH 0 0 11 xg_0 rfl (by decide) k_173 rfl dH_end_17 ?_
    refine lv_if_eq (pc := 20) (tgt := 34) hx hb dH_end_20 (by decide) (fun hc => ?_) (fun hc => ?_)
    · replace hf := jit hf hc
      obtain ⟨rfl, rfl, rfl⟩ := jo4 hf
      exact jx_throw (pc := 34) (own := RH) (cls := jE 2) (names := jnm) (ik := 68) (ic := 70) hx hb hl9 S.2.2.2.1 (by decide +kernel) (by decide +kernel) (S.2.2.2.2 _ k_340) (S.2.2.2.2 _ k_12) (jxw_of S hN jxw2) (hl.1.trans S.2.2.1.symm) dH_end_34 dH_end_37 dH_end_38 dH_end_41 ht9 (Nat.le_of_ble_eq_true rfl) (Nat.le_of_ble_eq_true rfl) (Nat.le_of_ble_eq_true rfl) (Nat.le_of_ble_eq_true rfl) hlk (Nat.le_refl _) (Nat.le_refl _) (jB_kept hw)
    · replace hf := jif hf hc
      refine lv_aload_n (pc := 23) hx hb dH_end_23 rfl (lv_at hl 0 rfl) ?_
      refine j_get (pc := 24) (v := .ref (ad 1)) S hw inH 0 0 0 xg_0 rfl (by decide) k_162 rfl dH_end_24 ?_
      refine lv_iload_n (pc := 27) hx hb dH_end_27 rfl (lv_at hl 1 rfl) ?_
      have hg := jbn_e hf; clear hf; obtain ⟨q3, h4, hf⟩ := hg
      refine j_cpi (pc := 28) (v := q3) (va_runV (As := [.int x1]) (rest := []) S (kJ_isCycleOpen l D ca ad _ σ x1 q3 h4) (cwV 1 S.2.2.2.2 (jgV k_424 k_375 k_376 k_2 k_377) rfl rfl rfl (by decide +kernel) ⟨Nat.le_of_ble_eq_true rfl, Nat.le_of_ble_eq_true rfl⟩) (j_preV (As := [.int x1]) hw xN_b (xN_to hN hw hA) rfl xg_1) rfl rfl hl.1 rfl (lv_room (Nat.le_of_ble_eq_true rfl)) dH_end_28 ⟨Nat.le_of_ble_eq_true rfl, Nat.le_of_ble_eq_true rfl⟩) ?_
      refine lv_if_ne (pc := 31) (tgt := 42) hx hb dH_end_31 (by decide) (fun hc => ?_) (fun hc => ?_)
      · replace hf := jif hf hc
        refine lv_iload_n (pc := 42) hx hb dH_end_42 rfl (lv_at hl 2 rfl) ?_
        refine lv_if_eq (pc := 43) (tgt := 58) hx hb dH_end_43 (by decide) (fun hc => ?_) (fun hc => ?_)
        · replace hf := jit hf hc
          refine lv_aload_n (pc := 58) hx hb dH_end_58 rfl (lv_at hl 0 rfl) ?_
          refine lv_iload_n (pc := 59) hx hb dH_end_59 rfl (lv_at hl 1 rfl) ?_
          have hg := jbn_e hf; clear hf; obtain ⟨q5, h6, hf⟩ := hg
          refine j_callv (pc := 60) (C := xC ca ad) (σ' := q5) hw hA (va_runV (As := [.int x1]) (rest := []) S (kH_rollBack l D ca ad _ σ x1 q5 h6) (cwV 1 S.2.2.2.2 (jgV k_429 k_431 ks_8 k_1 k_432) rfl rfl rfl (by decide +kernel) ⟨Nat.le_of_ble_eq_true rfl, Nat.le_of_ble_eq_true rfl⟩) (j_preV (As := [.int x1]) hw xN_b (xN_to hN hw hA) rfl xg_0) rfl rfl hl.1 rfl (lv_room (Nat.le_of_ble_eq_true rfl)) dH_end_60 ⟨Nat.le_of_ble_eq_true rfl, Nat.le_of_ble_eq_true rfl⟩) (fun H locs hw => ?_)
          refine lv_aload_n (pc := 63) hx hb dH_end_63 rfl (lv_at hl 0 rfl) ?_
          refine j_get (pc := 64) (v := .ref (ad 1)) S hw inH 0 0 0 xg_0 rfl (by decide) k_162 rfl dH_end_64 ?_
          refine j_get (pc := 67) (v := .int (q5 100 0)) S hw inJ 1 1 9 xg_1 rfl (by decide) k_50 rfl dH_end_67 ?_
          exact absurd (jo1 hf) hko
        · replace hf := jif hf hc
          refine lv_aload_n (pc := 46) hx hb dH_end_46 rfl (lv_at hl 0 rfl) ?_
          refine j_get (pc := 47) (v := .ref (ad 1)) S hw inH 0 0 0 xg_0 rfl (by decide) k_162 rfl dH_end_47 ?_
          refine lv_iconst (pc := 50) (v := (2 : Int32)) hx hb dH_end_50 (by decide) ?_
          refine lv_iload_n (pc := 51) hx hb dH_end_51 rfl (lv_at hl 1 rfl) ?_
          have hg := jbn_e hf; clear hf; obtain ⟨q7, h8, hf⟩ := hg
          refine j_callv (pc := 52) (C := xC ca ad) (σ' := q7) hw hA (va_runV (As := [.int (2 : Int32), .int x1]) (rest := []) S (kJ_addEnd l D ca ad _ σ (2 : Int32) x1 q7 h8) (cwV 2 S.2.2.2.2 (jgV k_425 k_426 k_427 k_2 k_428) rfl rfl rfl (by decide +kernel) ⟨Nat.le_of_ble_eq_true rfl, Nat.le_of_ble_eq_true rfl⟩) (j_preV (As := [.int (2 : Int32), .int x1]) hw xN_b (xN_to hN hw hA) rfl xg_1) rfl rfl hl.1 rfl (lv_room (Nat.le_of_ble_eq_true rfl)) dH_end_52 ⟨Nat.le_of_ble_eq_true rfl, Nat.le_of_ble_eq_true rfl⟩) (fun H locs hw => ?_)
          refine lv_goto (pc := 55) (tgt := 63) hx hb dH_end_55 (by decide) ?_
          refine lv_aload_n (pc := 63) hx hb dH_end_63 rfl (lv_at hl 0 rfl) ?_
          refine j_get (pc := 64) (v := .ref (ad 1)) S hw inH 0 0 0 xg_0 rfl (by decide) k_162 rfl dH_end_64 ?_
          refine j_get (pc := 67) (v := .int (q7 100 0)) S hw inJ 1 1 9 xg_1 rfl (by decide) k_50 rfl dH_end_67 ?_
          exact absurd (jo1 hf) hko
      · replace hf := jit hf hc
        obtain ⟨rfl, rfl, rfl⟩ := jo4 hf
        exact jx_throw (pc := 34) (own := RH) (cls := jE 2) (names := jnm) (ik := 68) (ic := 70) hx hb hl9 S.2.2.2.1 (by decide +kernel) (by decide +kernel) (S.2.2.2.2 _ k_340) (S.2.2.2.2 _ k_12) (jxw_of S hN jxw2) (hl.1.trans S.2.2.1.symm) dH_end_34 dH_end_37 dH_end_38 dH_end_41 ht9 (Nat.le_of_ble_eq_true rfl) (Nat.le_of_ble_eq_true rfl) (Nat.le_of_ble_eq_true rfl) (Nat.le_of_ble_eq_true rfl) hlk (Nat.le_refl _) (Nat.le_refl _) (jB_kept hw)
  · replace hf := jit hf hc
    obtain ⟨rfl, rfl, rfl⟩ := jo4 hf
    exact jx_throw (pc := 8) (own := RH) (cls := jE 1) (names := jnm) (ik := 61) (ic := 63) hx hb hl9 S.2.2.2.1 (by decide +kernel) (by decide +kernel) (S.2.2.2.2 _ k_278) (S.2.2.2.2 _ k_11) (jxw_of S hN jxw1) (hl.1.trans S.2.2.1.symm) dH_end_8 dH_end_11 dH_end_12 dH_end_15 ht9 (Nat.le_of_ble_eq_true rfl) (Nat.le_of_ble_eq_true rfl) (Nat.le_of_ble_eq_true rfl) (Nat.le_of_ble_eq_true rfl) hlk (Nat.le_refl _) (Nat.le_refl _) (jB_kept hw)
set_option maxHeartbeats 4000000 in
set_option maxRecDepth 100000 in
theorem kxH_end (l : Launch) (hl9 : l.stackTraces = false) (D : va_G) (ca : Nat → ClassId) (ad : Nat → Nat) (sz : Nat) (σ : JS) (x1 : Int32) (x2 : Int32) (ko : Nat) (vo : Int32) (σo : JS) (hko : ¬ ko = 0) (hf : mH_end σ x1 x2 = some (ko, vo, σo)) : jxM l yH_end wsH_end rmxH_end (jPre D (xT ca) (xC ca ad σ) (xN (va_A (xC ca ad σ) sz)) sz [.ref (ad 0), .int x1, .int x2]) (jE ko) (jB D (xT ca) (xC ca ad) (va_A (xC ca ad σ) sz) σo) (va_A (xC ca ad σ) sz) 1 6 := by
  refine jxM_of (cc := cH_end) (maxL := 3) (ret := some .int) (by decide) rfl ?_
  intro p e s m args below meth c s₁ B hml hnil hv
  obtain ⟨rfl, hsz, hP, hK, hD0, hN⟩ := hv
  subst hsz
  have hl := lv_entry [.ref (ad 0), .int x1, .int x2] (n := 3) (Nat.le_of_ble_eq_true rfl)
  rw [lg_entry_eq]
  generalize (lg_sl [.ref (ad 0), .int x1, .int x2] ++ List.replicate (3 - (lg_sl [.ref (ad 0), .int x1, .int x2]).length) Slot.unset).toArray = ls at hl ⊢
  exact bxH_end (fun q h => Or.inr h) ⟨B.exec, B.bytes, hml, findClass_of_methodNamed B.named, fun w h => atoms_spec (ws := wsH_end) B.pre w (List.mem_cons_of_mem _ h)⟩ hN B.returns B.notSynchronized hl9 hnil ko vo σo hko σ x1 x2 ls hl ⟨hP, hD0.self, va_S.rf, hK⟩ hf

def rmH_isSlot : Room := { frames := 0, cells := 0, slots := 0, locals := 0 }
def mH_isSlot (σ : JS) (x1 : Int32) : Option (Int32) :=
  if x1 < 0 then
  (some (0 : Int32))
  else
  (if (4 : Int32) ≤ x1 then
  (some (0 : Int32))
  else
  (some (1 : Int32)))
set_option maxHeartbeats 4000000 in
set_option maxRecDepth 100000 in
theorem bH_isSlot {p : Program} {l : Launch} {e : Env} {s : State} {m : MethodId} {args : Array Value} {below : List Frame} {meth : Method} {c : Code} {D : va_G} {ca : Nat → ClassId} {ad : Nat → Nat} {A : Nat → Prop} (hA : ∀ q, s.heap.size ≤ q → A q) (S : CallFix p m c cH_isSlot 2 s args jall RH) (hN : xN A s) (hr : meth.sig.returnType = some .boolean) (hlk : meth.locks = false) (out : Int32) (σ : JS) (x1 : Int32) (ls : Array Slot) (hl : lv_has ls 2 [(0, .ref (ad 0)), (1, .int x1)]) (hw : jH D (xT ca) (xC ca ad σ) A s.heap s.heap [] s) (hf : mH_isSlot σ x1 = some out) : W p l e (headSpec wsH_isSlot rmH_isSlot).room s m args below meth c s.heap [] 0 0 (MQ below (jSi out) args s 0 0 (fun _ => False)) (F0 m 0 ls []) := by
  have hx := S.1
  have hb := S.2.1
  unfold mH_isSlot at hf
  refine lv_iload_n (pc := 0) hx hb dH_isSlot_0 rfl (lv_at hl 1 rfl) ?_
  refine lv_if_lt (pc := 1) (tgt := 13) hx hb dH_isSlot_1 (by decide) (fun hc => ?_) (fun hc => ?_)
  · replace hf := jit hf hc
    refine lv_iconst (pc := 13) (v := (0 : Int32)) hx hb dH_isSlot_13 (by decide) ?_
    obtain rfl := jsm hf
    exact j_zpr (pc := 14) S hr hlk (Or.inl rfl) dH_isSlot_14
  · replace hf := jif hf hc
    refine lv_iload_n (pc := 4) hx hb dH_isSlot_4 rfl (lv_at hl 1 rfl) ?_
    refine lv_iconst (pc := 5) (v := (4 : Int32)) hx hb dH_isSlot_5 (by decide) ?_
    refine lv_icmp_ge (pc := 6) (tgt := 13) hx hb dH_isSlot_6 (by decide) (fun hc => ?_) (fun hc => ?_)
    · replace hf := jit hf hc
      refine lv_iconst (pc := 13) (v := (0 : Int32)) hx hb dH_isSlot_13 (by decide) ?_
      obtain rfl := jsm hf
      exact j_zpr (pc := 14) S hr hlk (Or.inl rfl) dH_isSlot_14
    · replace hf := jif hf hc
      refine lv_iconst (pc := 9) (v := (1 : Int32)) hx hb dH_isSlot_9 (by decide) ?_
      refine lv_goto (pc := 10) (tgt := 14) hx hb dH_isSlot_10 (by decide) ?_
      obtain rfl := jsm hf
      exact j_zpr (pc := 14) S hr hlk (Or.inr rfl) dH_isSlot_14
set_option maxHeartbeats 4000000 in
set_option maxRecDepth 100000 in
theorem kH_isSlot (l : Launch) (D : va_G) (ca : Nat → ClassId) (ad : Nat → Nat) (sz : Nat) (σ : JS) (x1 : Int32) (out : Int32) (hf : mH_isSlot σ x1 = some out) : Met l yH_isSlot wsH_isSlot rmH_isSlot (jPre D (xT ca) (xC ca ad σ) (xN (va_A (xC ca ad σ) sz)) sz [.ref (ad 0), .int x1]) (jSi out) 0 0 (fun _ => False) := by
  refine Met.ofW (cc := cH_isSlot) (maxL := 2) (ret := some .boolean) (by decide) rfl ?_
  intro p e s m args below meth c s₁ B hml hv
  obtain ⟨rfl, hsz, hP, hK, hD0, hN⟩ := hv
  subst hsz
  have hl := lv_entry [.ref (ad 0), .int x1] (n := 2) (Nat.le_of_ble_eq_true rfl)
  rw [lg_entry_eq]
  generalize (lg_sl [.ref (ad 0), .int x1] ++ List.replicate (2 - (lg_sl [.ref (ad 0), .int x1]).length) Slot.unset).toArray = ls at hl ⊢
  exact bH_isSlot (fun q h => Or.inr h) ⟨B.exec, B.bytes, hml, findClass_of_methodNamed B.named, fun w h => atoms_spec (ws := wsH_isSlot) B.pre w (List.mem_cons_of_mem _ h)⟩ hN B.returns B.notSynchronized out σ x1 ls hl ⟨hP, hD0.self, va_S.rf, hK⟩ hf

def rmJ_isBoundary : Room := { frames := 0, cells := 0, slots := 0, locals := 0 }
def mJ_isBoundary (σ : JS) (x1 : Int32) (x2 : Int32) : Option (Int32) :=
  if x2 < 0 then
  (some (0 : Int32))
  else
  (if (σ 100 0) < x2 then
  (some (0 : Int32))
  else
  (jrd σ 11 121 x2 fun v1 =>
  if ((v1 >>> (x1 &&& 31)) &&& (1 : Int32)) = 0 then
  (some (1 : Int32))
  else
  (some (0 : Int32))))
set_option maxHeartbeats 4000000 in
set_option maxRecDepth 100000 in
theorem bJ_isBoundary {p : Program} {l : Launch} {e : Env} {s : State} {m : MethodId} {args : Array Value} {below : List Frame} {meth : Method} {c : Code} {D : va_G} {ca : Nat → ClassId} {ad : Nat → Nat} {A : Nat → Prop} (hA : ∀ q, s.heap.size ≤ q → A q) (S : CallFix p m c cJ_isBoundary 3 s args jall RJ) (hN : xN A s) (hr : meth.sig.returnType = some .boolean) (hlk : meth.locks = false) (out : Int32) (σ : JS) (x1 : Int32) (x2 : Int32) (ls : Array Slot) (hl : lv_has ls 3 [(0, .ref (ad 1)), (1, .int x1), (2, .int x2)]) (hw : jH D (xT ca) (xC ca ad σ) A s.heap s.heap [] s) (hf : mJ_isBoundary σ x1 x2 = some out) : W p l e (headSpec wsJ_isBoundary rmJ_isBoundary).room s m args below meth c s.heap [] 0 0 (MQ below (jSi out) args s 0 0 (fun _ => False)) (F0 m 0 ls []) := by
  have hx := S.1
  have hb := S.2.1
  unfold mJ_isBoundary at hf
  refine lv_iload_n (pc := 0) hx hb dJ_isBoundary_0 rfl (lv_at hl 2 rfl) ?_
  refine lv_if_lt (pc := 1) (tgt := 29) hx hb dJ_isBoundary_1 (by decide) (fun hc => ?_) (fun hc => ?_)
  · replace hf := jit hf hc
    refine lv_iconst (pc := 29) (v := (0 : Int32)) hx hb dJ_isBoundary_29 (by decide) ?_
    obtain rfl := jsm hf
    exact j_zpr (pc := 30) S hr hlk (Or.inl rfl) dJ_isBoundary_30
  · replace hf := jif hf hc
    refine lv_iload_n (pc := 4) hx hb dJ_isBoundary_4 rfl (lv_at hl 2 rfl) ?_
    refine lv_aload_n (pc := 5) hx hb dJ_isBoundary_5 rfl (lv_at hl 0 rfl) ?_
    refine j_get (pc := 6) (v := .int (σ 100 0)) S hw inJ 1 1 9 xg_1 rfl (by decide) k_49 rfl dJ_isBoundary_6 ?_
    refine lv_icmp_gt (pc := 9) (tgt := 29) hx hb dJ_isBoundary_9 (by decide) (fun hc => ?_) (fun hc => ?_)
    · replace hf := jit hf hc
      refine lv_iconst (pc := 29) (v := (0 : Int32)) hx hb dJ_isBoundary_29 (by decide) ?_
      obtain rfl := jsm hf
      exact j_zpr (pc := 30) S hr hlk (Or.inl rfl) dJ_isBoundary_30
    · replace hf := jif hf hc
      refine lv_aload_n (pc := 12) hx hb dJ_isBoundary_12 rfl (lv_at hl 0 rfl) ?_
      refine j_get (pc := 13) (v := .ref (ad 11)) S hw inJ 1 1 5 xg_1 rfl (by decide) k_44 rfl dJ_isBoundary_13 ?_
      refine lv_iload_n (pc := 16) hx hb dJ_isBoundary_16 rfl (lv_at hl 2 rfl) ?_
      have hg := jrd_e hf; clear hf; obtain ⟨h2, v1, e3, hf⟩ := hg
      refine j_iald (pc := 17) S hw 11 5 xg_11 xt_11 h2 e3 dJ_isBoundary_17 ?_
      refine lv_iload_n (pc := 18) hx hb dJ_isBoundary_18 rfl (lv_at hl 1 rfl) ?_
      refine lv_ishr (pc := 19) hx hb dJ_isBoundary_19 ?_
      refine lv_iconst (pc := 20) (v := (1 : Int32)) hx hb dJ_isBoundary_20 (by decide) ?_
      refine lv_iand (pc := 21) hx hb dJ_isBoundary_21 ?_
      refine lv_if_ne (pc := 22) (tgt := 29) hx hb dJ_isBoundary_22 (by decide) (fun hc => ?_) (fun hc => ?_)
      · replace hf := jif hf hc
        refine lv_iconst (pc := 29) (v := (0 : Int32)) hx hb dJ_isBoundary_29 (by decide) ?_
        obtain rfl := jsm hf
        exact j_zpr (pc := 30) S hr hlk (Or.inl rfl) dJ_isBoundary_30
      · replace hf := jit hf hc
        refine lv_iconst (pc := 25) (v := (1 : Int32)) hx hb dJ_isBoundary_25 (by decide) ?_
        refine lv_goto (pc := 26) (tgt := 30) hx hb dJ_isBoundary_26 (by decide) ?_
        obtain rfl := jsm hf
        exact j_zpr (pc := 30) S hr hlk (Or.inr rfl) dJ_isBoundary_30
set_option maxHeartbeats 4000000 in
set_option maxRecDepth 100000 in
theorem kJ_isBoundary (l : Launch) (D : va_G) (ca : Nat → ClassId) (ad : Nat → Nat) (sz : Nat) (σ : JS) (x1 : Int32) (x2 : Int32) (out : Int32) (hf : mJ_isBoundary σ x1 x2 = some out) : Met l yJ_isBoundary wsJ_isBoundary rmJ_isBoundary (jPre D (xT ca) (xC ca ad σ) (xN (va_A (xC ca ad σ) sz)) sz [.ref (ad 1), .int x1, .int x2]) (jSi out) 0 0 (fun _ => False) := by
  refine Met.ofW (cc := cJ_isBoundary) (maxL := 3) (ret := some .boolean) (by decide) rfl ?_
  intro p e s m args below meth c s₁ B hml hv
  obtain ⟨rfl, hsz, hP, hK, hD0, hN⟩ := hv
  subst hsz
  have hl := lv_entry [.ref (ad 1), .int x1, .int x2] (n := 3) (Nat.le_of_ble_eq_true rfl)
  rw [lg_entry_eq]
  generalize (lg_sl [.ref (ad 1), .int x1, .int x2] ++ List.replicate (3 - (lg_sl [.ref (ad 1), .int x1, .int x2]).length) Slot.unset).toArray = ls at hl ⊢
  exact bJ_isBoundary (fun q h => Or.inr h) ⟨B.exec, B.bytes, hml, findClass_of_methodNamed B.named, fun w h => atoms_spec (ws := wsJ_isBoundary) B.pre w (List.mem_cons_of_mem _ h)⟩ hN B.returns B.notSynchronized out σ x1 x2 ls hl ⟨hP, hD0.self, va_S.rf, hK⟩ hf

def rmJ_isCycleOn : Room := { frames := 1, cells := 0, slots := 0, locals := 22 }
def mJ_isCycleOn (σ : JS) (x1 : Int32) : Option (Int32) :=
  jbn (mJ_isBoundary σ x1 (σ 100 0)) fun q1 =>
  if q1 = 0 then
  (some (1 : Int32))
  else
  (some (0 : Int32))
set_option maxHeartbeats 4000000 in
set_option maxRecDepth 100000 in
theorem bJ_isCycleOn {p : Program} {l : Launch} {e : Env} {s : State} {m : MethodId} {args : Array Value} {below : List Frame} {meth : Method} {c : Code} {D : va_G} {ca : Nat → ClassId} {ad : Nat → Nat} {A : Nat → Prop} (hA : ∀ q, s.heap.size ≤ q → A q) (S : CallFix p m c cJ_isCycleOn 2 s args jall RJ) (hN : xN A s) (hr : meth.sig.returnType = some .boolean) (hlk : meth.locks = false) (out : Int32) (σ : JS) (x1 : Int32) (ls : Array Slot) (hl : lv_has ls 2 [(0, .ref (ad 1)), (1, .int x1)]) (hw : jH D (xT ca) (xC ca ad σ) A s.heap s.heap [] s) (hf : mJ_isCycleOn σ x1 = some out) : W p l e (headSpec wsJ_isCycleOn rmJ_isCycleOn).room s m args below meth c s.heap [] 0 0 (MQ below (jSi out) args s 0 0 (fun _ => False)) (F0 m 0 ls []) := by
  have hx := S.1
  have hb := S.2.1
  unfold mJ_isCycleOn at hf
  refine lv_aload_n (pc := 0) hx hb dJ_isCycleOn_0 rfl (lv_at hl 0 rfl) ?_
  refine lv_iload_n (pc := 1) hx hb dJ_isCycleOn_1 rfl (lv_at hl 1 rfl) ?_
  refine lv_aload_n (pc := 2) hx hb dJ_isCycleOn_2 rfl (lv_at hl 0 rfl) ?_
  refine j_get (pc := 3) (v := .int (σ 100 0)) S hw inJ 1 1 9 xg_1 rfl (by decide) k_49 rfl dJ_isCycleOn_3 ?_
  have hg := jbn_e hf; clear hf; obtain ⟨q1, h2, hf⟩ := hg
  refine j_cpi (pc := 6) (v := q1) (va_runV (As := [.int x1, .int (σ 100 0)]) (rest := []) S (kJ_isBoundary l D ca ad _ σ x1 (σ 100 0) q1 h2) (cwV 2 S.2.2.2.2 (jgV k_448 k_232 k_233 k_2 k_234) rfl rfl rfl (by decide +kernel) ⟨Nat.le_of_ble_eq_true rfl, Nat.le_of_ble_eq_true rfl⟩) (j_preV (As := [.int x1, .int (σ 100 0)]) hw xN_b (xN_to hN hw hA) rfl xg_1) rfl rfl hl.1 rfl (lv_room (Nat.le_of_ble_eq_true rfl)) dJ_isCycleOn_6 ⟨Nat.le_of_ble_eq_true rfl, Nat.le_of_ble_eq_true rfl⟩) ?_
  refine lv_if_ne (pc := 9) (tgt := 16) hx hb dJ_isCycleOn_9 (by decide) (fun hc => ?_) (fun hc => ?_)
  · replace hf := jif hf hc
    refine lv_iconst (pc := 16) (v := (0 : Int32)) hx hb dJ_isCycleOn_16 (by decide) ?_
    obtain rfl := jsm hf
    exact j_zpr (pc := 17) S hr hlk (Or.inl rfl) dJ_isCycleOn_17
  · replace hf := jit hf hc
    refine lv_iconst (pc := 12) (v := (1 : Int32)) hx hb dJ_isCycleOn_12 (by decide) ?_
    refine lv_goto (pc := 13) (tgt := 17) hx hb dJ_isCycleOn_13 (by decide) ?_
    obtain rfl := jsm hf
    exact j_zpr (pc := 17) S hr hlk (Or.inr rfl) dJ_isCycleOn_17
set_option maxHeartbeats 4000000 in
set_option maxRecDepth 100000 in
theorem kJ_isCycleOn (l : Launch) (D : va_G) (ca : Nat → ClassId) (ad : Nat → Nat) (sz : Nat) (σ : JS) (x1 : Int32) (out : Int32) (hf : mJ_isCycleOn σ x1 = some out) : Met l yJ_isCycleOn wsJ_isCycleOn rmJ_isCycleOn (jPre D (xT ca) (xC ca ad σ) (xN (va_A (xC ca ad σ) sz)) sz [.ref (ad 1), .int x1]) (jSi out) 0 0 (fun _ => False) := by
  refine Met.ofW (cc := cJ_isCycleOn) (maxL := 2) (ret := some .boolean) (by decide) rfl ?_
  intro p e s m args below meth c s₁ B hml hv
  obtain ⟨rfl, hsz, hP, hK, hD0, hN⟩ := hv
  subst hsz
  have hl := lv_entry [.ref (ad 1), .int x1] (n := 2) (Nat.le_of_ble_eq_true rfl)
  rw [lg_entry_eq]
  generalize (lg_sl [.ref (ad 1), .int x1] ++ List.replicate (2 - (lg_sl [.ref (ad 1), .int x1]).length) Slot.unset).toArray = ls at hl ⊢
  exact bJ_isCycleOn (fun q h => Or.inr h) ⟨B.exec, B.bytes, hml, findClass_of_methodNamed B.named, fun w h => atoms_spec (ws := wsJ_isCycleOn) B.pre w (List.mem_cons_of_mem _ h)⟩ hN B.returns B.notSynchronized out σ x1 ls hl ⟨hP, hD0.self, va_S.rf, hK⟩ hf

def rmC_keep : Room := { frames := 1, cells := 0, slots := 0, locals := 21 }
def mC_keep (σ : JS) (x1 : Int32) (x2 : Int32) (x3 : Int32) : Option (JS) :=
  jwr σ 19 4 x1 (1 : Int32) fun σ1 =>
  jwr σ1 20 4 x1 x2 fun σ4 =>
  jwr σ4 21 4 x1 x3 fun σ7 =>
  jbn (mH_cellOf σ7 x2 (0 : Int32)) fun q10 =>
  jcp σ7 15 24 22 32 q10 (x1 * (8 : Int32)) (8 : Int32) fun σ12 =>
  some σ12
set_option maxHeartbeats 4000000 in
set_option maxRecDepth 100000 in
theorem bC_keep {p : Program} {l : Launch} {e : Env} {s : State} {m : MethodId} {args : Array Value} {below : List Frame} {meth : Method} {c : Code} {D : va_G} {ca : Nat → ClassId} {ad : Nat → Nat} {A : Nat → Prop} (hA : ∀ q, s.heap.size ≤ q → A q) (S : CallFix p m c cC_keep 5 s args jall RC) (hN : xN A s) (hr : meth.sig.returnType = none) (hlk : meth.locks = false) (out : JS) (σ : JS) (x1 : Int32) (x2 : Int32) (x3 : Int32) (ls : Array Slot) (hl : lv_has ls 5 [(0, .ref (ad 3)), (1, .int x1), (2, .int x2), (3, .int x3), (4, .ref (ad 15))]) (hw : jH D (xT ca) (xC ca ad σ) A s.heap s.heap [] s) (hf : mC_keep σ x1 x2 x3 = some out) : W p l e (headSpec wsC_keep rmC_keep).room s m args below meth c s.heap [] 0 0 (MQ below (jQv D (xT ca) (xC ca ad) A out) args s 0 0 A) (F0 m 0 ls []) := by
  have hx := S.1
  have hb := S.2.1
  unfold mC_keep at hf
  refine lv_aload_n (pc := 0) hx hb dC_keep_0 rfl (lv_at hl 0 rfl) ?_
  refine j_get (pc := 1) (v := .ref (ad 19)) S hw inC 3 3 0 xg_3 rfl (by decide) k_108 rfl dC_keep_1 ?_
  refine lv_iload_n (pc := 4) hx hb dC_keep_4 rfl (lv_at hl 1 rfl) ?_
  refine lv_iconst (pc := 5) (v := (1 : Int32)) hx hb dC_keep_5 (by decide) ?_
  have hg := jwr_e hf; clear hf; obtain ⟨h2, σ1, e3, hf⟩ := hg
  refine j_zast (pc := 6) (ws' := xC ca ad σ1) S hw 19 13 xg_19 xt_19 h2 rfl (by rw [e3]; exact xs_19) dC_keep_6 (fun H locs hw => ?_)
  refine lv_aload_n (pc := 7) hx hb dC_keep_7 rfl (lv_at hl 0 rfl) ?_
  refine j_get (pc := 8) (v := .ref (ad 20)) S hw inC 3 3 1 xg_3 rfl (by decide) k_110 rfl dC_keep_8 ?_
  refine lv_iload_n (pc := 11) hx hb dC_keep_11 rfl (lv_at hl 1 rfl) ?_
  refine lv_iload_n (pc := 12) hx hb dC_keep_12 rfl (lv_at hl 2 rfl) ?_
  have hg := jwr_e hf; clear hf; obtain ⟨h5, σ4, e6, hf⟩ := hg
  refine j_iast (pc := 13) (ws' := xC ca ad σ4) S hw 20 14 xg_20 xt_20 h5 (by rw [e6]; exact xs_20) dC_keep_13 (fun H locs hw => ?_)
  refine lv_aload_n (pc := 14) hx hb dC_keep_14 rfl (lv_at hl 0 rfl) ?_
  refine j_get (pc := 15) (v := .ref (ad 21)) S hw inC 3 3 2 xg_3 rfl (by decide) k_112 rfl dC_keep_15 ?_
  refine lv_iload_n (pc := 18) hx hb dC_keep_18 rfl (lv_at hl 1 rfl) ?_
  refine lv_iload_n (pc := 19) hx hb dC_keep_19 rfl (lv_at hl 3 rfl) ?_
  have hg := jwr_e hf; clear hf; obtain ⟨h8, σ7, e9, hf⟩ := hg
  refine j_iast (pc := 20) (ws' := xC ca ad σ7) S hw 21 15 xg_21 xt_21 h8 (by rw [e9]; exact xs_21) dC_keep_20 (fun H locs hw => ?_)
  refine lv_aload (pc := 21) hx hb dC_keep_21 (lv_at hl 4 rfl) ?_
  refine lv_iload_n (pc := 23) hx hb dC_keep_23 rfl (lv_at hl 2 rfl) ?_
  refine lv_iconst (pc := 24) (v := (0 : Int32)) hx hb dC_keep_24 (by decide) ?_
  have hg := jbn_e hf; clear hf; obtain ⟨q10, h11, hf⟩ := hg
  refine j_cpi (pc := 25) (v := q10) (va_runSN (host := "JournalHouse") (As := [.int x2, .int (0 : Int32)]) (rest := [.ref (ad 15)]) S (kH_cellOf l D ca ad _ σ7 x2 (0 : Int32) q10 h11) ⟨va_cnB 2 S.2.2.2.2 (jgN k_213) rfl rfl rfl (xN_w hN b_453 _) (S.2.2.2.2 _ k_1) (by decide +kernel) ⟨Nat.le_of_ble_eq_true rfl, Nat.le_of_ble_eq_true rfl⟩, S.2.2.2.2 _ k_212, trivial⟩ (j_preS hw xN_b (xN_to hN hw hA)) rfl rfl hl.1 rfl (lv_room (Nat.le_of_ble_eq_true rfl)) dC_keep_25 ⟨Nat.le_of_ble_eq_true rfl, Nat.le_of_ble_eq_true rfl⟩) ?_
  refine lv_aload_n (pc := 28) hx hb dC_keep_28 rfl (lv_at hl 0 rfl) ?_
  refine j_get (pc := 29) (v := .ref (ad 22)) S hw inC 3 3 3 xg_3 rfl (by decide) k_114 rfl dC_keep_29 ?_
  refine lv_iload_n (pc := 32) hx hb dC_keep_32 rfl (lv_at hl 1 rfl) ?_
  refine lv_bipush (pc := 33) (v := (8 : Int32)) hx hb dC_keep_33 (by decide) ?_
  refine lv_imul (pc := 35) hx hb dC_keep_35 ?_
  refine lv_bipush (pc := 36) (v := (8 : Int32)) hx hb dC_keep_36 (by decide) ?_
  have hg := jcp_e hf; clear hf; obtain ⟨h14, h15, h16, h17, h18, σ12, e13, hf⟩ := hg
  refine j_copyi (pc := 38) (rest := []) (ws' := xC ca ad σ12) S hw hl.1 k_454 k_416 k_415 k_14 15 22 9 16 xg_15 xg_22 xt_15 xt_22 h14 h15 h16 h17 h18 (by rw [e13]; exact xa_22) (Nat.le_of_ble_eq_true rfl) (Nat.le_of_ble_eq_true rfl) dC_keep_38 (fun H locs hw => ?_)
  obtain rfl := jsm hf
  exact j_vret (pc := 41) S hw hr hlk dC_keep_41
set_option maxHeartbeats 4000000 in
set_option maxRecDepth 100000 in
theorem kC_keep (l : Launch) (D : va_G) (ca : Nat → ClassId) (ad : Nat → Nat) (sz : Nat) (σ : JS) (x1 : Int32) (x2 : Int32) (x3 : Int32) (out : JS) (hf : mC_keep σ x1 x2 x3 = some out) : Met l yC_keep wsC_keep rmC_keep (jPre D (xT ca) (xC ca ad σ) (xN (va_A (xC ca ad σ) sz)) sz [.ref (ad 3), .int x1, .int x2, .int x3, .ref (ad 15)]) (jQv D (xT ca) (xC ca ad) (va_A (xC ca ad σ) sz) out) 0 0 (va_A (xC ca ad σ) sz) := by
  refine Met.ofW (cc := cC_keep) (maxL := 5) (ret := none) (by decide) rfl ?_
  intro p e s m args below meth c s₁ B hml hv
  obtain ⟨rfl, hsz, hP, hK, hD0, hN⟩ := hv
  subst hsz
  have hl := lv_entry [.ref (ad 3), .int x1, .int x2, .int x3, .ref (ad 15)] (n := 5) (Nat.le_of_ble_eq_true rfl)
  rw [lg_entry_eq]
  generalize (lg_sl [.ref (ad 3), .int x1, .int x2, .int x3, .ref (ad 15)] ++ List.replicate (5 - (lg_sl [.ref (ad 3), .int x1, .int x2, .int x3, .ref (ad 15)]).length) Slot.unset).toArray = ls at hl ⊢
  exact bC_keep (fun q h => Or.inr h) ⟨B.exec, B.bytes, hml, findClass_of_methodNamed B.named, fun w h => atoms_spec (ws := wsC_keep) B.pre w (List.mem_cons_of_mem _ h)⟩ hN B.returns B.notSynchronized out σ x1 x2 x3 ls hl ⟨hP, hD0.self, va_S.rf, hK⟩ hf

def rmnH_save : Room := { frames := 6, cells := 0, slots := 0, locals := 85 }
def rmxH_save : Room := { frames := 6, cells := 1, slots := 6, locals := 85 }
def mH_save (σ : JS) (x1 : Int32) (x2 : Int32) : Option (Nat × Int32 × JS) :=
  jbn (mH_isFile σ x1) fun q1 =>
  if q1 = 0 then
  (some (1, 0, σ))
  else
  (jbn (mH_isSlot σ x2) fun q3 =>
  if q3 = 0 then
  (some (1, 0, σ))
  else
  (if (σ 100 8) = 0 then
  (some (2, 0, σ))
  else
  (jbn (mJ_isCycleOn σ x1) fun q5 =>
  if q5 = 0 then
  (jbn (mC_keep σ x2 x1 (σ 100 0)) fun q7 =>
  some (0, (q7 100 0), q7))
  else
  (some (2, 0, σ)))))
set_option maxHeartbeats 4000000 in
set_option maxRecDepth 100000 in
theorem bnH_save {p : Program} {l : Launch} {e : Env} {s : State} {m : MethodId} {args : Array Value} {below : List Frame} {meth : Method} {c : Code} {D : va_G} {ca : Nat → ClassId} {ad : Nat → Nat} {A : Nat → Prop} (hA : ∀ q, s.heap.size ≤ q → A q) (S : CallFix p m c cH_save 3 s args jall RH) (hN : xN A s) (hr : meth.sig.returnType = some .int) (hlk : meth.locks = false) (vo : Int32) (σo : JS) (σ : JS) (x1 : Int32) (x2 : Int32) (ls : Array Slot) (hl : lv_has ls 3 [(0, .ref (ad 0)), (1, .int x1), (2, .int x2)]) (hw : jH D (xT ca) (xC ca ad σ) A s.heap s.heap [] s) (hf : mH_save σ x1 x2 = some (0, vo, σo)) : W p l e (headSpec wsH_save rmnH_save).room s m args below meth c s.heap [] 0 0 (MQ below (jQi D (xT ca) (xC ca ad) A vo σo) args s 0 0 A) (F0 m 0 ls []) := by
  have hx := S.1
  have hb := S.2.1
  unfold mH_save at hf
  refine lv_aload_n (pc := 0) hx hb dH_save_0 rfl (lv_at hl 0 rfl) ?_
  refine lv_iload_n (pc := 1) hx hb dH_save_1 rfl (lv_at hl 1 rfl) ?_
  have hg := jbn_e hf; clear hf; obtain ⟨q1, h2, hf⟩ := hg
  refine j_cpi (pc := 2) (v := q1) (va_runV (As := [.int x1]) (rest := []) S (kH_isFile l D ca ad _ σ x1 q1 h2) (cwV 1 S.2.2.2.2 (jgV k_207 k_209 ks_0 k_1 k_210) rfl rfl rfl (by decide +kernel) ⟨Nat.le_of_ble_eq_true rfl, Nat.le_of_ble_eq_true rfl⟩) (j_preV (As := [.int x1]) hw xN_b (xN_to hN hw hA) rfl xg_0) rfl rfl hl.1 rfl (lv_room (Nat.le_of_ble_eq_true rfl)) dH_save_2 ⟨Nat.le_of_ble_eq_true rfl, Nat.le_of_ble_eq_true rfl⟩) ?_
  refine lv_if_eq (pc := 5) (tgt := 16) hx hb dH_save_5 (by decide) (fun hc => ?_) (fun hc => ?_)
  · replace hf := jit hf hc
    exact (jo2 hf).elim
  · replace hf := jif hf hc
    refine lv_aload_n (pc := 8) hx hb dH_save_8 rfl (lv_at hl 0 rfl) ?_
    refine lv_iload_n (pc := 9) hx hb dH_save_9 rfl (lv_at hl 2 rfl) ?_
    have hg := jbn_e hf; clear hf; obtain ⟨q3, h4, hf⟩ := hg
    refine j_cpi (pc := 10) (v := q3) (va_runV (As := [.int x2]) (rest := []) S (kH_isSlot l D ca ad _ σ x2 q3 h4) (cwV 1 S.2.2.2.2 (jgV k_440 k_442 ks_9 k_1 k_443) rfl rfl rfl (by decide +kernel) ⟨Nat.le_of_ble_eq_true rfl, Nat.le_of_ble_eq_true rfl⟩) (j_preV (As := [.int x2]) hw xN_b (xN_to hN hw hA) rfl xg_0) rfl rfl hl.1 rfl (lv_room (Nat.le_of_ble_eq_true rfl)) dH_save_10 ⟨Nat.le_of_ble_eq_true rfl, Nat.le_of_ble_eq_true rfl⟩) ?_
    refine lv_if_ne (pc := 13) (tgt := 24) hx hb dH_save_13 (by decide) (fun hc => ?_) (fun hc => ?_)
    · replace hf := jif hf hc
      refine lv_aload_n (pc := 24) hx hb dH_save_24 rfl (lv_at hl 0 rfl) ?_
      refine j_get (pc := 25) (v := .int (σ 100 8)) S hw inH 0 0 11 xg_0 rfl (by decide) k_173 rfl dH_save_25 ?_
      refine lv_if_eq (pc := 28) (tgt := 42) hx hb dH_save_28 (by decide) (fun hc => ?_) (fun hc => ?_)
      · replace hf := jit hf hc
        exact (jo2 hf).elim
      · replace hf := jif hf hc
        refine lv_aload_n (pc := 31) hx hb dH_save_31 rfl (lv_at hl 0 rfl) ?_
        refine j_get (pc := 32) (v := .ref (ad 1)) S hw inH 0 0 0 xg_0 rfl (by decide) k_162 rfl dH_save_32 ?_
        refine lv_iload_n (pc := 35) hx hb dH_save_35 rfl (lv_at hl 1 rfl) ?_
        have hg := jbn_e hf; clear hf; obtain ⟨q5, h6, hf⟩ := hg
        refine j_cpi (pc := 36) (v := q5) (va_runV (As := [.int x1]) (rest := []) S (kJ_isCycleOn l D ca ad _ σ x1 q5 h6) (cwV 1 S.2.2.2.2 (jgV k_444 k_445 k_446 k_2 k_447) rfl rfl rfl (by decide +kernel) ⟨Nat.le_of_ble_eq_true rfl, Nat.le_of_ble_eq_true rfl⟩) (j_preV (As := [.int x1]) hw xN_b (xN_to hN hw hA) rfl xg_1) rfl rfl hl.1 rfl (lv_room (Nat.le_of_ble_eq_true rfl)) dH_save_36 ⟨Nat.le_of_ble_eq_true rfl, Nat.le_of_ble_eq_true rfl⟩) ?_
        refine lv_if_eq (pc := 39) (tgt := 50) hx hb dH_save_39 (by decide) (fun hc => ?_) (fun hc => ?_)
        · replace hf := jit hf hc
          refine lv_aload_n (pc := 50) hx hb dH_save_50 rfl (lv_at hl 0 rfl) ?_
          refine j_get (pc := 51) (v := .ref (ad 3)) S hw inH 0 0 2 xg_0 rfl (by decide) k_164 rfl dH_save_51 ?_
          refine lv_iload_n (pc := 54) hx hb dH_save_54 rfl (lv_at hl 2 rfl) ?_
          refine lv_iload_n (pc := 55) hx hb dH_save_55 rfl (lv_at hl 1 rfl) ?_
          refine lv_aload_n (pc := 56) hx hb dH_save_56 rfl (lv_at hl 0 rfl) ?_
          refine j_get (pc := 57) (v := .ref (ad 1)) S hw inH 0 0 0 xg_0 rfl (by decide) k_162 rfl dH_save_57 ?_
          refine j_get (pc := 60) (v := .int (σ 100 0)) S hw inJ 1 1 9 xg_1 rfl (by decide) k_50 rfl dH_save_60 ?_
          refine lv_aload_n (pc := 63) hx hb dH_save_63 rfl (lv_at hl 0 rfl) ?_
          refine j_get (pc := 64) (v := .ref (ad 2)) S hw inH 0 0 1 xg_0 rfl (by decide) k_163 rfl dH_save_64 ?_
          refine j_get (pc := 67) (v := .ref (ad 15)) S hw inS 2 2 0 xg_2 rfl (by decide) k_84 rfl dH_save_67 ?_
          have hg := jbn_e hf; clear hf; obtain ⟨q7, h8, hf⟩ := hg
          refine j_callv (pc := 70) (C := xC ca ad) (σ' := q7) hw hA (va_runV (As := [.int x2, .int x1, .int (σ 100 0), .ref (ad 15)]) (rest := []) S (kC_keep l D ca ad _ σ x2 x1 (σ 100 0) q7 h8) (cwV 4 S.2.2.2.2 (jgV k_449 k_450 k_451 k_4 k_452) rfl rfl rfl (by decide +kernel) ⟨Nat.le_of_ble_eq_true rfl, Nat.le_of_ble_eq_true rfl⟩) (j_preV (As := [.int x2, .int x1, .int (σ 100 0), .ref (ad 15)]) hw xN_b (xN_to hN hw hA) rfl xg_3) rfl rfl hl.1 rfl (lv_room (Nat.le_of_ble_eq_true rfl)) dH_save_70 ⟨Nat.le_of_ble_eq_true rfl, Nat.le_of_ble_eq_true rfl⟩) (fun H locs hw => ?_)
          refine lv_aload_n (pc := 73) hx hb dH_save_73 rfl (lv_at hl 0 rfl) ?_
          refine j_get (pc := 74) (v := .ref (ad 1)) S hw inH 0 0 0 xg_0 rfl (by decide) k_162 rfl dH_save_74 ?_
          refine j_get (pc := 77) (v := .int (q7 100 0)) S hw inJ 1 1 9 xg_1 rfl (by decide) k_50 rfl dH_save_77 ?_
          obtain ⟨rfl, rfl⟩ := jo0 hf
          exact j_iret (pc := 80) S hw hr hlk dH_save_80
        · replace hf := jif hf hc
          exact (jo2 hf).elim
    · replace hf := jit hf hc
      exact (jo2 hf).elim
set_option maxHeartbeats 4000000 in
set_option maxRecDepth 100000 in
theorem knH_save (l : Launch) (D : va_G) (ca : Nat → ClassId) (ad : Nat → Nat) (sz : Nat) (σ : JS) (x1 : Int32) (x2 : Int32) (vo : Int32) (σo : JS) (hf : mH_save σ x1 x2 = some (0, vo, σo)) : Met l yH_save wsH_save rmnH_save (jPre D (xT ca) (xC ca ad σ) (xN (va_A (xC ca ad σ) sz)) sz [.ref (ad 0), .int x1, .int x2]) (jQi D (xT ca) (xC ca ad) (va_A (xC ca ad σ) sz) vo σo) 0 0 (va_A (xC ca ad σ) sz) := by
  refine Met.ofW (cc := cH_save) (maxL := 3) (ret := some .int) (by decide) rfl ?_
  intro p e s m args below meth c s₁ B hml hv
  obtain ⟨rfl, hsz, hP, hK, hD0, hN⟩ := hv
  subst hsz
  have hl := lv_entry [.ref (ad 0), .int x1, .int x2] (n := 3) (Nat.le_of_ble_eq_true rfl)
  rw [lg_entry_eq]
  generalize (lg_sl [.ref (ad 0), .int x1, .int x2] ++ List.replicate (3 - (lg_sl [.ref (ad 0), .int x1, .int x2]).length) Slot.unset).toArray = ls at hl ⊢
  exact bnH_save (fun q h => Or.inr h) ⟨B.exec, B.bytes, hml, findClass_of_methodNamed B.named, fun w h => atoms_spec (ws := wsH_save) B.pre w (List.mem_cons_of_mem _ h)⟩ hN B.returns B.notSynchronized vo σo σ x1 x2 ls hl ⟨hP, hD0.self, va_S.rf, hK⟩ hf
set_option maxHeartbeats 4000000 in
set_option maxRecDepth 100000 in
theorem bxH_save {p : Program} {l : Launch} {e : Env} {s : State} {m : MethodId} {args : Array Value} {below : List Frame} {meth : Method} {c : Code} {D : va_G} {ca : Nat → ClassId} {ad : Nat → Nat} {A : Nat → Prop} (hA : ∀ q, s.heap.size ≤ q → A q) (S : CallFix p m c cH_save 3 s args jall RH) (hN : xN A s) (hr : meth.sig.returnType = some .int) (hlk : meth.locks = false) (hl9 : l.stackTraces = false) (ht9 : ∀ x ∈ c.exceptionTable.toList, False) (ko : Nat) (vo : Int32) (σo : JS) (hko : ¬ ko = 0) (σ : JS) (x1 : Int32) (x2 : Int32) (ls : Array Slot) (hl : lv_has ls 3 [(0, .ref (ad 0)), (1, .int x1), (2, .int x2)]) (hw : jH D (xT ca) (xC ca ad σ) A s.heap s.heap [] s) (hf : mH_save σ x1 x2 = some (ko, vo, σo)) : W p l e (headSpec wsH_save rmxH_save).room s m args below meth c s.heap [] 0 0 (jxQ below s (jE ko) (jB D (xT ca) (xC ca ad) A σo) A 1 6) (F0 m 0 ls []) := by
  have hx := S.1
  have hb := S.2.1
  unfold mH_save at hf
  refine lv_aload_n (pc := 0) hx hb dH_save_0 rfl (lv_at hl 0 rfl) ?_
  refine lv_iload_n (pc := 1) hx hb dH_save_1 rfl (lv_at hl 1 rfl) ?_
  have hg := jbn_e hf; clear hf; obtain ⟨q1, h2, hf⟩ := hg
  refine j_cpi (pc := 2) (v := q1) (va_runV (As := [.int x1]) (rest := []) S (kH_isFile l D ca ad _ σ x1 q1 h2) (cwV 1 S.2.2.2.2 (jgV k_207 k_209 ks_0 k_1 k_210) rfl rfl rfl (by decide +kernel) ⟨Nat.le_of_ble_eq_true rfl, Nat.le_of_ble_eq_true rfl⟩) (j_preV (As := [.int x1]) hw xN_b (xN_to hN hw hA) rfl xg_0) rfl rfl hl.1 rfl (lv_room (Nat.le_of_ble_eq_true rfl)) dH_save_2 ⟨Nat.le_of_ble_eq_true rfl, Nat.le_of_ble_eq_true rfl⟩) ?_
  refine lv_if_eq (pc := 5) (tgt := 16) hx hb dH_save_5 (by decide) (fun hc => ?_) (fun hc => ?_)
  · replace hf := jit hf hc
    obtain ⟨rfl, rfl, rfl⟩ := jo4 hf
    exact jx_throw (pc := 16) (own := RH) (cls := jE 1) (names := jnm) (ik := 61) (ic := 63) hx hb hl9 S.2.2.2.1 (by decide +kernel) (by decide +kernel) (S.2.2.2.2 _ k_278) (S.2.2.2.2 _ k_11) (jxw_of S hN jxw1) (hl.1.trans S.2.2.1.symm) dH_save_16 dH_save_19 dH_save_20 dH_save_23 ht9 (Nat.le_of_ble_eq_true rfl) (Nat.le_of_ble_eq_true rfl) (Nat.le_of_ble_eq_true rfl) (Nat.le_of_ble_eq_true rfl) hlk (Nat.le_refl _) (Nat.le_refl _) (jB_kept hw)
  · replace hf := jif hf hc
    refine lv_aload_n (pc := 8) hx hb dH_save_8 rfl (lv_at hl 0 rfl) ?_
    refine lv_iload_n (pc := 9) hx hb dH_save_9 rfl (lv_at hl 2 rfl) ?_
    have hg := jbn_e hf; clear hf; obtain ⟨q3, h4, hf⟩ := hg
    refine j_cpi (pc := 10) (v := q3) (va_runV (As := [.int x2]) (rest := []) S (kH_isSlot l D ca ad _ σ x2 q3 h4) (cwV 1 S.2.2.2.2 (jgV k_440 k_442 ks_9 k_1 k_443) rfl rfl rfl (by decide +kernel) ⟨Nat.le_of_ble_eq_true rfl, Nat.le_of_ble_eq_true rfl⟩) (j_preV (As := [.int x2]) hw xN_b (xN_to hN hw hA) rfl xg_0) rfl rfl hl.1 rfl (lv_room (Nat.le_of_ble_eq_true rfl)) dH_save_10 ⟨Nat.le_of_ble_eq_true rfl, Nat.le_of_ble_eq_true rfl⟩) ?_
    refine lv_if_ne (pc := 13) (tgt := 24) hx hb dH_save_13 (by decide) (fun hc => ?_) (fun hc => ?_)
    · replace hf := jif hf hc
      refine lv_aload_n (pc := 24) hx hb dH_save_24 rfl (lv_at hl 0 rfl) ?_
      refine j_get (pc := 25) (v := .int (σ 100 8)) S hw inH 0 0 11 xg_0 rfl (by decide) k_173 rfl dH_save_25 ?_
      refine lv_if_eq (pc := 28) (tgt := 42) hx hb dH_save_28 (by decide) (fun hc => ?_) (fun hc => ?_)
      · replace hf := jit hf hc
        obtain ⟨rfl, rfl, rfl⟩ := jo4 hf
        exact jx_throw (pc := 42) (own := RH) (cls := jE 2) (names := jnm) (ik := 68) (ic := 70) hx hb hl9 S.2.2.2.1 (by decide +kernel) (by decide +kernel) (S.2.2.2.2 _ k_340) (S.2.2.2.2 _ k_12) (jxw_of S hN jxw2) (hl.1.trans S.2.2.1.symm) dH_save_42 dH_save_45 dH_save_46 dH_save_49 ht9 (Nat.le_of_ble_eq_true rfl) (Nat.le_of_ble_eq_true rfl) (Nat.le_of_ble_eq_true rfl) (Nat.le_of_ble_eq_true rfl) hlk (Nat.le_refl _) (Nat.le_refl _) (jB_kept hw)
      · replace hf := jif hf hc
        refine lv_aload_n (pc := 31) hx hb dH_save_31 rfl (lv_at hl 0 rfl) ?_
        refine j_get (pc := 32) (v := .ref (ad 1)) S hw inH 0 0 0 xg_0 rfl (by decide) k_162 rfl dH_save_32 ?_
        refine lv_iload_n (pc := 35) hx hb dH_save_35 rfl (lv_at hl 1 rfl) ?_
        have hg := jbn_e hf; clear hf; obtain ⟨q5, h6, hf⟩ := hg
        refine j_cpi (pc := 36) (v := q5) (va_runV (As := [.int x1]) (rest := []) S (kJ_isCycleOn l D ca ad _ σ x1 q5 h6) (cwV 1 S.2.2.2.2 (jgV k_444 k_445 k_446 k_2 k_447) rfl rfl rfl (by decide +kernel) ⟨Nat.le_of_ble_eq_true rfl, Nat.le_of_ble_eq_true rfl⟩) (j_preV (As := [.int x1]) hw xN_b (xN_to hN hw hA) rfl xg_1) rfl rfl hl.1 rfl (lv_room (Nat.le_of_ble_eq_true rfl)) dH_save_36 ⟨Nat.le_of_ble_eq_true rfl, Nat.le_of_ble_eq_true rfl⟩) ?_
        refine lv_if_eq (pc := 39) (tgt := 50) hx hb dH_save_39 (by decide) (fun hc => ?_) (fun hc => ?_)
        · replace hf := jit hf hc
          refine lv_aload_n (pc := 50) hx hb dH_save_50 rfl (lv_at hl 0 rfl) ?_
          refine j_get (pc := 51) (v := .ref (ad 3)) S hw inH 0 0 2 xg_0 rfl (by decide) k_164 rfl dH_save_51 ?_
          refine lv_iload_n (pc := 54) hx hb dH_save_54 rfl (lv_at hl 2 rfl) ?_
          refine lv_iload_n (pc := 55) hx hb dH_save_55 rfl (lv_at hl 1 rfl) ?_
          refine lv_aload_n (pc := 56) hx hb dH_save_56 rfl (lv_at hl 0 rfl) ?_
          refine j_get (pc := 57) (v := .ref (ad 1)) S hw inH 0 0 0 xg_0 rfl (by decide) k_162 rfl dH_save_57 ?_
          refine j_get (pc := 60) (v := .int (σ 100 0)) S hw inJ 1 1 9 xg_1 rfl (by decide) k_50 rfl dH_save_60 ?_
          refine lv_aload_n (pc := 63) hx hb dH_save_63 rfl (lv_at hl 0 rfl) ?_
          refine j_get (pc := 64) (v := .ref (ad 2)) S hw inH 0 0 1 xg_0 rfl (by decide) k_163 rfl dH_save_64 ?_
          refine j_get (pc := 67) (v := .ref (ad 15)) S hw inS 2 2 0 xg_2 rfl (by decide) k_84 rfl dH_save_67 ?_
          have hg := jbn_e hf; clear hf; obtain ⟨q7, h8, hf⟩ := hg
          refine j_callv (pc := 70) (C := xC ca ad) (σ' := q7) hw hA (va_runV (As := [.int x2, .int x1, .int (σ 100 0), .ref (ad 15)]) (rest := []) S (kC_keep l D ca ad _ σ x2 x1 (σ 100 0) q7 h8) (cwV 4 S.2.2.2.2 (jgV k_449 k_450 k_451 k_4 k_452) rfl rfl rfl (by decide +kernel) ⟨Nat.le_of_ble_eq_true rfl, Nat.le_of_ble_eq_true rfl⟩) (j_preV (As := [.int x2, .int x1, .int (σ 100 0), .ref (ad 15)]) hw xN_b (xN_to hN hw hA) rfl xg_3) rfl rfl hl.1 rfl (lv_room (Nat.le_of_ble_eq_true rfl)) dH_save_70 ⟨Nat.le_of_ble_eq_true rfl, Nat.le_of_ble_eq_true rfl⟩) (fun H locs hw => ?_)
          refine lv_aload_n (pc := 73) hx hb dH_save_73 rfl (lv_at hl 0 rfl) ?_
          refine j_get (pc := 74) (v := .ref (ad 1)) S hw inH 0 0 0 xg_0 rfl (by decide) k_162 rfl dH_save_74 ?_
          refine j_get (pc := 77) (v := .int (q7 100 0)) S hw inJ 1 1 9 xg_1 rfl (by decide) k_50 rfl dH_save_77 ?_
          exact absurd (jo1 hf) hko
        · replace hf := jif hf hc
          obtain ⟨rfl, rfl, rfl⟩ := jo4 hf
          exact jx_throw (pc := 42) (own := RH) (cls := jE 2) (names := jnm) (ik := 68) (ic := 70) hx hb hl9 S.2.2.2.1 (by decide +kernel) (by decide +kernel) (S.2.2.2.2 _ k_340) (S.2.2.2.2 _ k_12) (jxw_of S hN jxw2) (hl.1.trans S.2.2.1.symm) dH_save_42 dH_save_45 dH_save_46 dH_save_49 ht9 (Nat.le_of_ble_eq_true rfl) (Nat.le_of_ble_eq_true rfl) (Nat.le_of_ble_eq_true rfl) (Nat.le_of_ble_eq_true rfl) hlk (Nat.le_refl _) (Nat.le_refl _) (jB_kept hw)
    · replace hf := jit hf hc
      obtain ⟨rfl, rfl, rfl⟩ := jo4 hf
      exact jx_throw (pc := 16) (own := RH) (cls := jE 1) (names := jnm) (ik := 61) (ic := 63) hx hb hl9 S.2.2.2.1 (by decide +kernel) (by decide +kernel) (S.2.2.2.2 _ k_278) (S.2.2.2.2 _ k_11) (jxw_of S hN jxw1) (hl.1.trans S.2.2.1.symm) dH_save_16 dH_save_19 dH_save_20 dH_save_23 ht9 (Nat.le_of_ble_eq_true rfl) (Nat.le_of_ble_eq_true rfl) (Nat.le_of_ble_eq_true rfl) (Nat.le_of_ble_eq_true rfl) hlk (Nat.le_refl _) (Nat.le_refl _) (jB_kept hw)
set_option maxHeartbeats 4000000 in
set_option maxRecDepth 100000 in
theorem kxH_save (l : Launch) (hl9 : l.stackTraces = false) (D : va_G) (ca : Nat → ClassId) (ad : Nat → Nat) (sz : Nat) (σ : JS) (x1 : Int32) (x2 : Int32) (ko : Nat) (vo : Int32) (σo : JS) (hko : ¬ ko = 0) (hf : mH_save σ x1 x2 = some (ko, vo, σo)) : jxM l yH_save wsH_save rmxH_save (jPre D (xT ca) (xC ca ad σ) (xN (va_A (xC ca ad σ) sz)) sz [.ref (ad 0), .int x1, .int x2]) (jE ko) (jB D (xT ca) (xC ca ad) (va_A (xC ca ad σ) sz) σo) (va_A (xC ca ad σ) sz) 1 6 := by
  refine jxM_of (cc := cH_save) (maxL := 3) (ret := some .int) (by decide) rfl ?_
  intro p e s m args below meth c s₁ B hml hnil hv
  obtain ⟨rfl, hsz, hP, hK, hD0, hN⟩ := hv
  subst hsz
  have hl := lv_entry [.ref (ad 0), .int x1, .int x2] (n := 3) (Nat.le_of_ble_eq_true rfl)
  rw [lg_entry_eq]
  generalize (lg_sl [.ref (ad 0), .int x1, .int x2] ++ List.replicate (3 - (lg_sl [.ref (ad 0), .int x1, .int x2]).length) Slot.unset).toArray = ls at hl ⊢
  exact bxH_save (fun q h => Or.inr h) ⟨B.exec, B.bytes, hml, findClass_of_methodNamed B.named, fun w h => atoms_spec (ws := wsH_save) B.pre w (List.mem_cons_of_mem _ h)⟩ hN B.returns B.notSynchronized hl9 hnil ko vo σo hko σ x1 x2 ls hl ⟨hP, hD0.self, va_S.rf, hK⟩ hf

