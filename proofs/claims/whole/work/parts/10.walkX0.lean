def rmnH_file : Room := { frames := 6, cells := 0, slots := 0, locals := 85 }
def rmxH_file : Room := { frames := 6, cells := 1, slots := 6, locals := 85 }
def mH_file (σ : JS) (x1 : Int32) : Option (Nat × Int32 × JS) :=
  if x1 < (1 : Int32) then
  (some (1, 0, σ))
  else
  (if x1 ≤ (8 : Int32) then
  (if (σ 100 8) = 0 then
  (some (2, 0, σ))
  else
  (if (σ 100 6) = (3 : Int32) then
  (some (2, 0, σ))
  else
  (jwr σ 26 3 (σ 100 6) x1 fun σ1 =>
  jwr σ1 27 3 (σ 100 6) (-1 : Int32) fun σ4 =>
  jst (jw2 σ4 100 6 ((σ4 100 6) + (1 : Int32))) fun σ7 =>
  some (0, (σ 100 6), σ7))))
  else
  (some (1, 0, σ)))
set_option maxHeartbeats 4000000 in
set_option maxRecDepth 100000 in
theorem bnH_file {p : Program} {l : Launch} {e : Env} {s : State} {m : MethodId} {args : Array Value} {below : List Frame} {meth : Method} {c : Code} {D : va_G} {ca : Nat → ClassId} {ad : Nat → Nat} {A : Nat → Prop} (hA : ∀ q, s.heap.size ≤ q → A q) (S : CallFix p m c cH_file 3 s args jall RH) (hN : xN A s) (hr : meth.sig.returnType = some .int) (hlk : meth.locks = false) (vo : Int32) (σo : JS) (σ : JS) (x1 : Int32) (ls : Array Slot) (hl : lv_has ls 3 [(0, .ref (ad 0)), (1, .int x1)]) (hw : jH D (xT ca) (xC ca ad σ) A s.heap s.heap [] s) (hf : mH_file σ x1 = some (0, vo, σo)) : W p l e (headSpec wsH_file rmnH_file).room s m args below meth c s.heap [] 0 0 (MQ below (jQi D (xT ca) (xC ca ad) A vo σo) args s 0 0 A) (F0 m 0 ls []) := by
  have hx := S.1
  have hb := S.2.1
  unfold mH_file at hf
  refine lv_iload_n (pc := 0) hx hb dH_file_0 rfl (lv_at hl 1 rfl) ?_
  refine lv_iconst (pc := 1) (v := (1 : Int32)) hx hb dH_file_1 (by decide) ?_
  refine lv_icmp_lt (pc := 2) (tgt := 11) hx hb dH_file_2 (by decide) (fun hc => ?_) (fun hc => ?_)
  · replace hf := jit hf hc
    exact (jo2 hf).elim
  · replace hf := jif hf hc
    refine lv_iload_n (pc := 5) hx hb dH_file_5 rfl (lv_at hl 1 rfl) ?_
    refine lv_bipush (pc := 6) (v := (8 : Int32)) hx hb dH_file_6 (by decide) ?_
    refine lv_icmp_le (pc := 8) (tgt := 19) hx hb dH_file_8 (by decide) (fun hc => ?_) (fun hc => ?_)
    · replace hf := jit hf hc
      refine lv_aload_n (pc := 19) hx hb dH_file_19 rfl (lv_at hl 0 rfl) ?_
      refine j_get (pc := 20) (v := .int (σ 100 8)) S hw inH 0 0 11 xg_0 rfl (by decide) k_173 rfl dH_file_20 ?_
      refine lv_if_eq (pc := 23) (tgt := 34) hx hb dH_file_23 (by decide) (fun hc => ?_) (fun hc => ?_)
      · replace hf := jit hf hc
        exact (jo2 hf).elim
      · replace hf := jif hf hc
        refine lv_aload_n (pc := 26) hx hb dH_file_26 rfl (lv_at hl 0 rfl) ?_
        refine j_get (pc := 27) (v := .int (σ 100 6)) S hw inH 0 0 9 xg_0 rfl (by decide) k_171 rfl dH_file_27 ?_
        refine lv_iconst (pc := 30) (v := (3 : Int32)) hx hb dH_file_30 (by decide) ?_
        refine lv_icmp_ne (pc := 31) (tgt := 42) hx hb dH_file_31 (by decide) (fun hc => ?_) (fun hc => ?_)
        · replace hf := jif hf hc
          refine lv_aload_n (pc := 42) hx hb dH_file_42 rfl (lv_at hl 0 rfl) ?_
          refine j_get (pc := 43) (v := .int (σ 100 6)) S hw inH 0 0 9 xg_0 rfl (by decide) k_171 rfl dH_file_43 ?_
          refine lv_istore_n (pc := 46) (lv' := [(2, .int (σ 100 6)), (0, .ref (ad 0)), (1, .int x1)]) hx hb dH_file_46 rfl hl (by decide) rfl (fun ls hl => ?_)
          refine lv_aload_n (pc := 47) hx hb dH_file_47 rfl (lv_at hl 1 rfl) ?_
          refine j_get (pc := 48) (v := .ref (ad 26)) S hw inH 0 0 5 xg_0 rfl (by decide) k_167 rfl dH_file_48 ?_
          refine lv_iload_n (pc := 51) hx hb dH_file_51 rfl (lv_at hl 0 rfl) ?_
          refine lv_iload_n (pc := 52) hx hb dH_file_52 rfl (lv_at hl 2 rfl) ?_
          have hg := jwr_e hf; clear hf; obtain ⟨h2, σ1, e3, hf⟩ := hg
          refine j_iast (pc := 53) (ws' := xC ca ad σ1) S hw 26 20 xg_26 xt_26 h2 (by rw [e3]; exact xs_26) dH_file_53 (fun H locs hw => ?_)
          refine lv_aload_n (pc := 54) hx hb dH_file_54 rfl (lv_at hl 1 rfl) ?_
          refine j_get (pc := 55) (v := .ref (ad 27)) S hw inH 0 0 6 xg_0 rfl (by decide) k_168 rfl dH_file_55 ?_
          refine lv_iload_n (pc := 58) hx hb dH_file_58 rfl (lv_at hl 0 rfl) ?_
          refine lv_iconst (pc := 59) (v := (-1 : Int32)) hx hb dH_file_59 (by decide) ?_
          have hg := jwr_e hf; clear hf; obtain ⟨h5, σ4, e6, hf⟩ := hg
          refine j_iast (pc := 60) (ws' := xC ca ad σ4) S hw 27 21 xg_27 xt_27 h5 (by rw [e6]; exact xs_27) dH_file_60 (fun H locs hw => ?_)
          refine lv_aload_n (pc := 61) hx hb dH_file_61 rfl (lv_at hl 1 rfl) ?_
          refine lv_dup (pc := 62) hx hb dH_file_62 rfl ?_
          refine j_get (pc := 63) (v := .int (σ4 100 6)) S hw inH 0 0 9 xg_0 rfl (by decide) k_171 rfl dH_file_63 ?_
          refine lv_iconst (pc := 66) (v := (1 : Int32)) hx hb dH_file_66 (by decide) ?_
          refine lv_iadd (pc := 67) hx hb dH_file_67 ?_
          have hg := jst_e hf; clear hf; obtain ⟨σ7, e8, hf⟩ := hg
          refine j_put (pc := 68) (v := .int ((σ4 100 6) + (1 : Int32))) (ws' := xC ca ad σ7) S hw inH tyH tyH_ok nmH 0 0 9 xg_0 rfl (by decide) k_171 rfl rfl rfl (Nat.le_of_ble_eq_true rfl) (by rw [e8]; exact xp_6) dH_file_68 (fun H locs hw => ?_)
          refine lv_iload_n (pc := 71) hx hb dH_file_71 rfl (lv_at hl 0 rfl) ?_
          obtain ⟨rfl, rfl⟩ := jo0 hf
          exact j_iret (pc := 72) S hw hr hlk dH_file_72
        · replace hf := jit hf hc
          exact (jo2 hf).elim
    · replace hf := jif hf hc
      exact (jo2 hf).elim
set_option maxHeartbeats 4000000 in
set_option maxRecDepth 100000 in
theorem knH_file (l : Launch) (D : va_G) (ca : Nat → ClassId) (ad : Nat → Nat) (sz : Nat) (σ : JS) (x1 : Int32) (vo : Int32) (σo : JS) (hf : mH_file σ x1 = some (0, vo, σo)) : Met l yH_file wsH_file rmnH_file (jPre D (xT ca) (xC ca ad σ) (xN (va_A (xC ca ad σ) sz)) sz [.ref (ad 0), .int x1]) (jQi D (xT ca) (xC ca ad) (va_A (xC ca ad σ) sz) vo σo) 0 0 (va_A (xC ca ad σ) sz) := by
  refine Met.ofW (cc := cH_file) (maxL := 3) (ret := some .int) (by decide) rfl ?_
  intro p e s m args below meth c s₁ B hml hv
  obtain ⟨rfl, hsz, hP, hK, hD0, hN⟩ := hv
  subst hsz
  have hl := lv_entry [.ref (ad 0), .int x1] (n := 3) (Nat.le_of_ble_eq_true rfl)
  rw [lg_entry_eq]
  generalize (lg_sl [.ref (ad 0), .int x1] ++ List.replicate (3 - (lg_sl [.ref (ad 0), .int x1]).length) Slot.unset).toArray = ls at hl ⊢
  exact bnH_file (fun q h => Or.inr h) ⟨B.exec, B.bytes, hml, findClass_of_methodNamed B.named, fun w h => atoms_spec (ws := wsH_file) B.pre w (List.mem_cons_of_mem _ h)⟩ hN B.returns B.notSynchronized vo σo σ x1 ls hl ⟨hP, hD0.self, va_S.rf, hK⟩ hf
set_option maxHeartbeats 4000000 in
set_option maxRecDepth 100000 in
theorem bxH_file {p : Program} {l : Launch} {e : Env} {s : State} {m : MethodId} {args : Array Value} {below : List Frame} {meth : Method} {c : Code} {D : va_G} {ca : Nat → ClassId} {ad : Nat → Nat} {A : Nat → Prop} (hA : ∀ q, s.heap.size ≤ q → A q) (S : CallFix p m c cH_file 3 s args jall RH) (hN : xN A s) (hr : meth.sig.returnType = some .int) (hlk : meth.locks = false) (hl9 : l.stackTraces = false) (ht9 : ∀ x ∈ c.exceptionTable.toList, False) (ko : Nat) (vo : Int32) (σo : JS) (hko : ¬ ko = 0) (σ : JS) (x1 : Int32) (ls : Array Slot) (hl : lv_has ls 3 [(0, .ref (ad 0)), (1, .int x1)]) (hw : jH D (xT ca) (xC ca ad σ) A s.heap s.heap [] s) (hf : mH_file σ x1 = some (ko, vo, σo)) : W p l e (headSpec wsH_file rmxH_file).room s m args below meth c s.heap [] 0 0 (jxQ below s (jE ko) (jB D (xT ca) (xC ca ad) A σo) A 1 6) (F0 m 0 ls []) := by
  have hx := S.1
  have hb := S.2.1
  unfold mH_file at hf
  refine lv_iload_n (pc := 0) hx hb dH_file_0 rfl (lv_at hl 1 rfl) ?_
  refine lv_iconst (pc := 1) (v := (1 : Int32)) hx hb dH_file_1 (by decide) ?_
  refine lv_icmp_lt (pc := 2) (tgt := 11) hx hb dH_file_2 (by decide) (fun hc => ?_) (fun hc => ?_)
  · replace hf := jit hf hc
    obtain ⟨rfl, rfl, rfl⟩ := jo4 hf
    exact jx_throw (pc := 11) (own := RH) (cls := jE 1) (names := jnm) (ik := 61) (ic := 63) hx hb hl9 S.2.2.2.1 (by decide +kernel) (by decide +kernel) (S.2.2.2.2 _ k_278) (S.2.2.2.2 _ k_11) (jxw_of S hN jxw1) (hl.1.trans S.2.2.1.symm) dH_file_11 dH_file_14 dH_file_15 dH_file_18 ht9 (Nat.le_of_ble_eq_true rfl) (Nat.le_of_ble_eq_true rfl) (Nat.le_of_ble_eq_true rfl) (Nat.le_of_ble_eq_true rfl) hlk (Nat.le_refl _) (Nat.le_refl _) (jB_kept hw)
  · replace hf := jif hf hc
    refine lv_iload_n (pc := 5) hx hb dH_file_5 rfl (lv_at hl 1 rfl) ?_
    refine lv_bipush (pc := 6) (v := (8 : Int32)) hx hb dH_file_6 (by decide) ?_
    refine lv_icmp_le (pc := 8) (tgt := 19) hx hb dH_file_8 (by decide) (fun hc => ?_) (fun hc => ?_)
    · replace hf := jit hf hc
      refine lv_aload_n (pc := 19) hx hb dH_file_19 rfl (lv_at hl 0 rfl) ?_
      refine j_get (pc := 20) (v := .int (σ 100 8)) S hw inH 0 0 11 xg_0 rfl (by decide) k_173 rfl dH_file_20 ?_
      refine lv_if_eq (pc := 23) (tgt := 34) hx hb dH_file_23 (by decide) (fun hc => ?_) (fun hc => ?_)
      · replace hf := jit hf hc
        obtain ⟨rfl, rfl, rfl⟩ := jo4 hf
        exact jx_throw (pc := 34) (own := RH) (cls := jE 2) (names := jnm) (ik := 68) (ic := 70) hx hb hl9 S.2.2.2.1 (by decide +kernel) (by decide +kernel) (S.2.2.2.2 _ k_340) (S.2.2.2.2 _ k_12) (jxw_of S hN jxw2) (hl.1.trans S.2.2.1.symm) dH_file_34 dH_file_37 dH_file_38 dH_file_41 ht9 (Nat.le_of_ble_eq_true rfl) (Nat.le_of_ble_eq_true rfl) (Nat.le_of_ble_eq_true rfl) (Nat.le_of_ble_eq_true rfl) hlk (Nat.le_refl _) (Nat.le_refl _) (jB_kept hw)
      · replace hf := jif hf hc
        refine lv_aload_n (pc := 26) hx hb dH_file_26 rfl (lv_at hl 0 rfl) ?_
        refine j_get (pc := 27) (v := .int (σ 100 6)) S hw inH 0 0 9 xg_0 rfl (by decide) k_171 rfl dH_file_27 ?_
        refine lv_iconst (pc := 30) (v := (3 : Int32)) hx hb dH_file_30 (by decide) ?_
        refine lv_icmp_ne (pc := 31) (tgt := 42) hx hb dH_file_31 (by decide) (fun hc => ?_) (fun hc => ?_)
        · replace hf := jif hf hc
          refine lv_aload_n (pc := 42) hx hb dH_file_42 rfl (lv_at hl 0 rfl) ?_
          refine j_get (pc := 43) (v := .int (σ 100 6)) S hw inH 0 0 9 xg_0 rfl (by decide) k_171 rfl dH_file_43 ?_
          refine lv_istore_n (pc := 46) (lv' := [(2, .int (σ 100 6)), (0, .ref (ad 0)), (1, .int x1)]) hx hb dH_file_46 rfl hl (by decide) rfl (fun ls hl => ?_)
          refine lv_aload_n (pc := 47) hx hb dH_file_47 rfl (lv_at hl 1 rfl) ?_
          refine j_get (pc := 48) (v := .ref (ad 26)) S hw inH 0 0 5 xg_0 rfl (by decide) k_167 rfl dH_file_48 ?_
          refine lv_iload_n (pc := 51) hx hb dH_file_51 rfl (lv_at hl 0 rfl) ?_
          refine lv_iload_n (pc := 52) hx hb dH_file_52 rfl (lv_at hl 2 rfl) ?_
          have hg := jwr_e hf; clear hf; obtain ⟨h2, σ1, e3, hf⟩ := hg
          refine j_iast (pc := 53) (ws' := xC ca ad σ1) S hw 26 20 xg_26 xt_26 h2 (by rw [e3]; exact xs_26) dH_file_53 (fun H locs hw => ?_)
          refine lv_aload_n (pc := 54) hx hb dH_file_54 rfl (lv_at hl 1 rfl) ?_
          refine j_get (pc := 55) (v := .ref (ad 27)) S hw inH 0 0 6 xg_0 rfl (by decide) k_168 rfl dH_file_55 ?_
          refine lv_iload_n (pc := 58) hx hb dH_file_58 rfl (lv_at hl 0 rfl) ?_
          refine lv_iconst (pc := 59) (v := (-1 : Int32)) hx hb dH_file_59 (by decide) ?_
          have hg := jwr_e hf; clear hf; obtain ⟨h5, σ4, e6, hf⟩ := hg
          refine j_iast (pc := 60) (ws' := xC ca ad σ4) S hw 27 21 xg_27 xt_27 h5 (by rw [e6]; exact xs_27) dH_file_60 (fun H locs hw => ?_)
          refine lv_aload_n (pc := 61) hx hb dH_file_61 rfl (lv_at hl 1 rfl) ?_
          refine lv_dup (pc := 62) hx hb dH_file_62 rfl ?_
          refine j_get (pc := 63) (v := .int (σ4 100 6)) S hw inH 0 0 9 xg_0 rfl (by decide) k_171 rfl dH_file_63 ?_
          refine lv_iconst (pc := 66) (v := (1 : Int32)) hx hb dH_file_66 (by decide) ?_
          refine lv_iadd (pc := 67) hx hb dH_file_67 ?_
          have hg := jst_e hf; clear hf; obtain ⟨σ7, e8, hf⟩ := hg
          refine j_put (pc := 68) (v := .int ((σ4 100 6) + (1 : Int32))) (ws' := xC ca ad σ7) S hw inH tyH tyH_ok nmH 0 0 9 xg_0 rfl (by decide) k_171 rfl rfl rfl (Nat.le_of_ble_eq_true rfl) (by rw [e8]; exact xp_6) dH_file_68 (fun H locs hw => ?_)
          refine lv_iload_n (pc := 71) hx hb dH_file_71 rfl (lv_at hl 0 rfl) ?_
          exact absurd (jo1 hf) hko
        · replace hf := jit hf hc
          obtain ⟨rfl, rfl, rfl⟩ := jo4 hf
          exact jx_throw (pc := 34) (own := RH) (cls := jE 2) (names := jnm) (ik := 68) (ic := 70) hx hb hl9 S.2.2.2.1 (by decide +kernel) (by decide +kernel) (S.2.2.2.2 _ k_340) (S.2.2.2.2 _ k_12) (jxw_of S hN jxw2) (hl.1.trans S.2.2.1.symm) dH_file_34 dH_file_37 dH_file_38 dH_file_41 ht9 (Nat.le_of_ble_eq_true rfl) (Nat.le_of_ble_eq_true rfl) (Nat.le_of_ble_eq_true rfl) (Nat.le_of_ble_eq_true rfl) hlk (Nat.le_refl _) (Nat.le_refl _) (jB_kept hw)
    · replace hf := jif hf hc
      obtain ⟨rfl, rfl, rfl⟩ := jo4 hf
      exact jx_throw (pc := 11) (own := RH) (cls := jE 1) (names := jnm) (ik := 61) (ic := 63) hx hb hl9 S.2.2.2.1 (by decide +kernel) (by decide +kernel) (S.2.2.2.2 _ k_278) (S.2.2.2.2 _ k_11) (jxw_of S hN jxw1) (hl.1.trans S.2.2.1.symm) dH_file_11 dH_file_14 dH_file_15 dH_file_18 ht9 (Nat.le_of_ble_eq_true rfl) (Nat.le_of_ble_eq_true rfl) (Nat.le_of_ble_eq_true rfl) (Nat.le_of_ble_eq_true rfl) hlk (Nat.le_refl _) (Nat.le_refl _) (jB_kept hw)
set_option maxHeartbeats 4000000 in
set_option maxRecDepth 100000 in
theorem kxH_file (l : Launch) (hl9 : l.stackTraces = false) (D : va_G) (ca : Nat → ClassId) (ad : Nat → Nat) (sz : Nat) (σ : JS) (x1 : Int32) (ko : Nat) (vo : Int32) (σo : JS) (hko : ¬ ko = 0) (hf : mH_file σ x1 = some (ko, vo, σo)) : jxM l yH_file wsH_file rmxH_file (jPre D (xT ca) (xC ca ad σ) (xN (va_A (xC ca ad σ) sz)) sz [.ref (ad 0), .int x1]) (jE ko) (jB D (xT ca) (xC ca ad) (va_A (xC ca ad σ) sz) σo) (va_A (xC ca ad σ) sz) 1 6 := by
  refine jxM_of (cc := cH_file) (maxL := 3) (ret := some .int) (by decide) rfl ?_
  intro p e s m args below meth c s₁ B hml hnil hv
  obtain ⟨rfl, hsz, hP, hK, hD0, hN⟩ := hv
  subst hsz
  have hl := lv_entry [.ref (ad 0), .int x1] (n := 3) (Nat.le_of_ble_eq_true rfl)
  rw [lg_entry_eq]
  generalize (lg_sl [.ref (ad 0), .int x1] ++ List.replicate (3 - (lg_sl [.ref (ad 0), .int x1]).length) Slot.unset).toArray = ls at hl ⊢
  exact bxH_file (fun q h => Or.inr h) ⟨B.exec, B.bytes, hml, findClass_of_methodNamed B.named, fun w h => atoms_spec (ws := wsH_file) B.pre w (List.mem_cons_of_mem _ h)⟩ hN B.returns B.notSynchronized hl9 hnil ko vo σo hko σ x1 ls hl ⟨hP, hD0.self, va_S.rf, hK⟩ hf

def rmH_isJob : Room := { frames := 0, cells := 0, slots := 0, locals := 0 }
def mH_isJob (σ : JS) (x1 : Int32) : Option (Int32) :=
  if x1 < 0 then
  (some (0 : Int32))
  else
  (if (3 : Int32) ≤ x1 then
  (some (0 : Int32))
  else
  (some (1 : Int32)))
set_option maxHeartbeats 4000000 in
set_option maxRecDepth 100000 in
theorem bH_isJob {p : Program} {l : Launch} {e : Env} {s : State} {m : MethodId} {args : Array Value} {below : List Frame} {meth : Method} {c : Code} {D : va_G} {ca : Nat → ClassId} {ad : Nat → Nat} {A : Nat → Prop} (hA : ∀ q, s.heap.size ≤ q → A q) (S : CallFix p m c cH_isJob 2 s args jall RH) (hN : xN A s) (hr : meth.sig.returnType = some .boolean) (hlk : meth.locks = false) (out : Int32) (σ : JS) (x1 : Int32) (ls : Array Slot) (hl : lv_has ls 2 [(0, .ref (ad 0)), (1, .int x1)]) (hw : jH D (xT ca) (xC ca ad σ) A s.heap s.heap [] s) (hf : mH_isJob σ x1 = some out) : W p l e (headSpec wsH_isJob rmH_isJob).room s m args below meth c s.heap [] 0 0 (MQ below (jSi out) args s 0 0 (fun _ => False)) (F0 m 0 ls []) := by
  have hx := S.1
  have hb := S.2.1
  unfold mH_isJob at hf
  refine lv_iload_n (pc := 0) hx hb dH_isJob_0 rfl (lv_at hl 1 rfl) ?_
  refine lv_if_lt (pc := 1) (tgt := 13) hx hb dH_isJob_1 (by decide) (fun hc => ?_) (fun hc => ?_)
  · replace hf := jit hf hc
    refine lv_iconst (pc := 13) (v := (0 : Int32)) hx hb dH_isJob_13 (by decide) ?_
    obtain rfl := jsm hf
    exact j_zpr (pc := 14) S hr hlk (Or.inl rfl) dH_isJob_14
  · replace hf := jif hf hc
    refine lv_iload_n (pc := 4) hx hb dH_isJob_4 rfl (lv_at hl 1 rfl) ?_
    refine lv_iconst (pc := 5) (v := (3 : Int32)) hx hb dH_isJob_5 (by decide) ?_
    refine lv_icmp_ge (pc := 6) (tgt := 13) hx hb dH_isJob_6 (by decide) (fun hc => ?_) (fun hc => ?_)
    · replace hf := jit hf hc
      refine lv_iconst (pc := 13) (v := (0 : Int32)) hx hb dH_isJob_13 (by decide) ?_
      obtain rfl := jsm hf
      exact j_zpr (pc := 14) S hr hlk (Or.inl rfl) dH_isJob_14
    · replace hf := jif hf hc
      refine lv_iconst (pc := 9) (v := (1 : Int32)) hx hb dH_isJob_9 (by decide) ?_
      refine lv_goto (pc := 10) (tgt := 14) hx hb dH_isJob_10 (by decide) ?_
      obtain rfl := jsm hf
      exact j_zpr (pc := 14) S hr hlk (Or.inr rfl) dH_isJob_14
set_option maxHeartbeats 4000000 in
set_option maxRecDepth 100000 in
theorem kH_isJob (l : Launch) (D : va_G) (ca : Nat → ClassId) (ad : Nat → Nat) (sz : Nat) (σ : JS) (x1 : Int32) (out : Int32) (hf : mH_isJob σ x1 = some out) : Met l yH_isJob wsH_isJob rmH_isJob (jPre D (xT ca) (xC ca ad σ) (xN (va_A (xC ca ad σ) sz)) sz [.ref (ad 0), .int x1]) (jSi out) 0 0 (fun _ => False) := by
  refine Met.ofW (cc := cH_isJob) (maxL := 2) (ret := some .boolean) (by decide) rfl ?_
  intro p e s m args below meth c s₁ B hml hv
  obtain ⟨rfl, hsz, hP, hK, hD0, hN⟩ := hv
  subst hsz
  have hl := lv_entry [.ref (ad 0), .int x1] (n := 2) (Nat.le_of_ble_eq_true rfl)
  rw [lg_entry_eq]
  generalize (lg_sl [.ref (ad 0), .int x1] ++ List.replicate (2 - (lg_sl [.ref (ad 0), .int x1]).length) Slot.unset).toArray = ls at hl ⊢
  exact bH_isJob (fun q h => Or.inr h) ⟨B.exec, B.bytes, hml, findClass_of_methodNamed B.named, fun w h => atoms_spec (ws := wsH_isJob) B.pre w (List.mem_cons_of_mem _ h)⟩ hN B.returns B.notSynchronized out σ x1 ls hl ⟨hP, hD0.self, va_S.rf, hK⟩ hf

def rmH_isFile : Room := { frames := 0, cells := 0, slots := 0, locals := 0 }
def mH_isFile (σ : JS) (x1 : Int32) : Option (Int32) :=
  if x1 < 0 then
  (some (0 : Int32))
  else
  (if (σ 100 6) ≤ x1 then
  (some (0 : Int32))
  else
  (some (1 : Int32)))
set_option maxHeartbeats 4000000 in
set_option maxRecDepth 100000 in
theorem bH_isFile {p : Program} {l : Launch} {e : Env} {s : State} {m : MethodId} {args : Array Value} {below : List Frame} {meth : Method} {c : Code} {D : va_G} {ca : Nat → ClassId} {ad : Nat → Nat} {A : Nat → Prop} (hA : ∀ q, s.heap.size ≤ q → A q) (S : CallFix p m c cH_isFile 2 s args jall RH) (hN : xN A s) (hr : meth.sig.returnType = some .boolean) (hlk : meth.locks = false) (out : Int32) (σ : JS) (x1 : Int32) (ls : Array Slot) (hl : lv_has ls 2 [(0, .ref (ad 0)), (1, .int x1)]) (hw : jH D (xT ca) (xC ca ad σ) A s.heap s.heap [] s) (hf : mH_isFile σ x1 = some out) : W p l e (headSpec wsH_isFile rmH_isFile).room s m args below meth c s.heap [] 0 0 (MQ below (jSi out) args s 0 0 (fun _ => False)) (F0 m 0 ls []) := by
  have hx := S.1
  have hb := S.2.1
  unfold mH_isFile at hf
  refine lv_iload_n (pc := 0) hx hb dH_isFile_0 rfl (lv_at hl 1 rfl) ?_
  refine lv_if_lt (pc := 1) (tgt := 16) hx hb dH_isFile_1 (by decide) (fun hc => ?_) (fun hc => ?_)
  · replace hf := jit hf hc
    refine lv_iconst (pc := 16) (v := (0 : Int32)) hx hb dH_isFile_16 (by decide) ?_
    obtain rfl := jsm hf
    exact j_zpr (pc := 17) S hr hlk (Or.inl rfl) dH_isFile_17
  · replace hf := jif hf hc
    refine lv_iload_n (pc := 4) hx hb dH_isFile_4 rfl (lv_at hl 1 rfl) ?_
    refine lv_aload_n (pc := 5) hx hb dH_isFile_5 rfl (lv_at hl 0 rfl) ?_
    refine j_get (pc := 6) (v := .int (σ 100 6)) S hw inH 0 0 9 xg_0 rfl (by decide) k_171 rfl dH_isFile_6 ?_
    refine lv_icmp_ge (pc := 9) (tgt := 16) hx hb dH_isFile_9 (by decide) (fun hc => ?_) (fun hc => ?_)
    · replace hf := jit hf hc
      refine lv_iconst (pc := 16) (v := (0 : Int32)) hx hb dH_isFile_16 (by decide) ?_
      obtain rfl := jsm hf
      exact j_zpr (pc := 17) S hr hlk (Or.inl rfl) dH_isFile_17
    · replace hf := jif hf hc
      refine lv_iconst (pc := 12) (v := (1 : Int32)) hx hb dH_isFile_12 (by decide) ?_
      refine lv_goto (pc := 13) (tgt := 17) hx hb dH_isFile_13 (by decide) ?_
      obtain rfl := jsm hf
      exact j_zpr (pc := 17) S hr hlk (Or.inr rfl) dH_isFile_17
set_option maxHeartbeats 4000000 in
set_option maxRecDepth 100000 in
theorem kH_isFile (l : Launch) (D : va_G) (ca : Nat → ClassId) (ad : Nat → Nat) (sz : Nat) (σ : JS) (x1 : Int32) (out : Int32) (hf : mH_isFile σ x1 = some out) : Met l yH_isFile wsH_isFile rmH_isFile (jPre D (xT ca) (xC ca ad σ) (xN (va_A (xC ca ad σ) sz)) sz [.ref (ad 0), .int x1]) (jSi out) 0 0 (fun _ => False) := by
  refine Met.ofW (cc := cH_isFile) (maxL := 2) (ret := some .boolean) (by decide) rfl ?_
  intro p e s m args below meth c s₁ B hml hv
  obtain ⟨rfl, hsz, hP, hK, hD0, hN⟩ := hv
  subst hsz
  have hl := lv_entry [.ref (ad 0), .int x1] (n := 2) (Nat.le_of_ble_eq_true rfl)
  rw [lg_entry_eq]
  generalize (lg_sl [.ref (ad 0), .int x1] ++ List.replicate (2 - (lg_sl [.ref (ad 0), .int x1]).length) Slot.unset).toArray = ls at hl ⊢
  exact bH_isFile (fun q h => Or.inr h) ⟨B.exec, B.bytes, hml, findClass_of_methodNamed B.named, fun w h => atoms_spec (ws := wsH_isFile) B.pre w (List.mem_cons_of_mem _ h)⟩ hN B.returns B.notSynchronized out σ x1 ls hl ⟨hP, hD0.self, va_S.rf, hK⟩ hf

def rmH_isRecord : Room := { frames := 1, cells := 0, slots := 0, locals := 21 }
def mH_isRecord (σ : JS) (x1 : Int32) (x2 : Int32) : Option (Int32) :=
  jbn (mH_isFile σ x1) fun q1 =>
  if q1 = 0 then
  (some (0 : Int32))
  else
  (if x2 < 0 then
  (some (0 : Int32))
  else
  (jrd σ 26 3 x1 fun v3 =>
  if v3 ≤ x2 then
  (some (0 : Int32))
  else
  (some (1 : Int32))))
set_option maxHeartbeats 4000000 in
set_option maxRecDepth 100000 in
theorem bH_isRecord {p : Program} {l : Launch} {e : Env} {s : State} {m : MethodId} {args : Array Value} {below : List Frame} {meth : Method} {c : Code} {D : va_G} {ca : Nat → ClassId} {ad : Nat → Nat} {A : Nat → Prop} (hA : ∀ q, s.heap.size ≤ q → A q) (S : CallFix p m c cH_isRecord 3 s args jall RH) (hN : xN A s) (hr : meth.sig.returnType = some .boolean) (hlk : meth.locks = false) (out : Int32) (σ : JS) (x1 : Int32) (x2 : Int32) (ls : Array Slot) (hl : lv_has ls 3 [(0, .ref (ad 0)), (1, .int x1), (2, .int x2)]) (hw : jH D (xT ca) (xC ca ad σ) A s.heap s.heap [] s) (hf : mH_isRecord σ x1 x2 = some out) : W p l e (headSpec wsH_isRecord rmH_isRecord).room s m args below meth c s.heap [] 0 0 (MQ below (jSi out) args s 0 0 (fun _ => False)) (F0 m 0 ls []) := by
  have hx := S.1
  have hb := S.2.1
  unfold mH_isRecord at hf
  refine lv_aload_n (pc := 0) hx hb dH_isRecord_0 rfl (lv_at hl 0 rfl) ?_
  refine lv_iload_n (pc := 1) hx hb dH_isRecord_1 rfl (lv_at hl 1 rfl) ?_
  have hg := jbn_e hf; clear hf; obtain ⟨q1, h2, hf⟩ := hg
  refine j_cpi (pc := 2) (v := q1) (va_runV (As := [.int x1]) (rest := []) S (kH_isFile l D ca ad _ σ x1 q1 h2) (cwV 1 S.2.2.2.2 (jgV k_207 k_209 ks_0 k_1 k_210) rfl rfl rfl (by decide +kernel) ⟨Nat.le_of_ble_eq_true rfl, Nat.le_of_ble_eq_true rfl⟩) (j_preV (As := [.int x1]) hw xN_b (xN_to hN hw hA) rfl xg_0) rfl rfl hl.1 rfl (lv_room (Nat.le_of_ble_eq_true rfl)) dH_isRecord_2 ⟨Nat.le_of_ble_eq_true rfl, Nat.le_of_ble_eq_true rfl⟩) ?_
  refine lv_if_eq (pc := 5) (tgt := 26) hx hb dH_isRecord_5 (by decide) (fun hc => ?_) (fun hc => ?_)
  · replace hf := jit hf hc
    refine lv_iconst (pc := 26) (v := (0 : Int32)) hx hb dH_isRecord_26 (by decide) ?_
    obtain rfl := jsm hf
    exact j_zpr (pc := 27) S hr hlk (Or.inl rfl) dH_isRecord_27
  · replace hf := jif hf hc
    refine lv_iload_n (pc := 8) hx hb dH_isRecord_8 rfl (lv_at hl 2 rfl) ?_
    refine lv_if_lt (pc := 9) (tgt := 26) hx hb dH_isRecord_9 (by decide) (fun hc => ?_) (fun hc => ?_)
    · replace hf := jit hf hc
      refine lv_iconst (pc := 26) (v := (0 : Int32)) hx hb dH_isRecord_26 (by decide) ?_
      obtain rfl := jsm hf
      exact j_zpr (pc := 27) S hr hlk (Or.inl rfl) dH_isRecord_27
    · replace hf := jif hf hc
      refine lv_iload_n (pc := 12) hx hb dH_isRecord_12 rfl (lv_at hl 2 rfl) ?_
      refine lv_aload_n (pc := 13) hx hb dH_isRecord_13 rfl (lv_at hl 0 rfl) ?_
      refine j_get (pc := 14) (v := .ref (ad 26)) S hw inH 0 0 5 xg_0 rfl (by decide) k_167 rfl dH_isRecord_14 ?_
      refine lv_iload_n (pc := 17) hx hb dH_isRecord_17 rfl (lv_at hl 1 rfl) ?_
      have hg := jrd_e hf; clear hf; obtain ⟨h4, v3, e5, hf⟩ := hg
      refine j_iald (pc := 18) S hw 26 20 xg_26 xt_26 h4 e5 dH_isRecord_18 ?_
      refine lv_icmp_ge (pc := 19) (tgt := 26) hx hb dH_isRecord_19 (by decide) (fun hc => ?_) (fun hc => ?_)
      · replace hf := jit hf hc
        refine lv_iconst (pc := 26) (v := (0 : Int32)) hx hb dH_isRecord_26 (by decide) ?_
        obtain rfl := jsm hf
        exact j_zpr (pc := 27) S hr hlk (Or.inl rfl) dH_isRecord_27
      · replace hf := jif hf hc
        refine lv_iconst (pc := 22) (v := (1 : Int32)) hx hb dH_isRecord_22 (by decide) ?_
        refine lv_goto (pc := 23) (tgt := 27) hx hb dH_isRecord_23 (by decide) ?_
        obtain rfl := jsm hf
        exact j_zpr (pc := 27) S hr hlk (Or.inr rfl) dH_isRecord_27
set_option maxHeartbeats 4000000 in
set_option maxRecDepth 100000 in
theorem kH_isRecord (l : Launch) (D : va_G) (ca : Nat → ClassId) (ad : Nat → Nat) (sz : Nat) (σ : JS) (x1 : Int32) (x2 : Int32) (out : Int32) (hf : mH_isRecord σ x1 x2 = some out) : Met l yH_isRecord wsH_isRecord rmH_isRecord (jPre D (xT ca) (xC ca ad σ) (xN (va_A (xC ca ad σ) sz)) sz [.ref (ad 0), .int x1, .int x2]) (jSi out) 0 0 (fun _ => False) := by
  refine Met.ofW (cc := cH_isRecord) (maxL := 3) (ret := some .boolean) (by decide) rfl ?_
  intro p e s m args below meth c s₁ B hml hv
  obtain ⟨rfl, hsz, hP, hK, hD0, hN⟩ := hv
  subst hsz
  have hl := lv_entry [.ref (ad 0), .int x1, .int x2] (n := 3) (Nat.le_of_ble_eq_true rfl)
  rw [lg_entry_eq]
  generalize (lg_sl [.ref (ad 0), .int x1, .int x2] ++ List.replicate (3 - (lg_sl [.ref (ad 0), .int x1, .int x2]).length) Slot.unset).toArray = ls at hl ⊢
  exact bH_isRecord (fun q h => Or.inr h) ⟨B.exec, B.bytes, hml, findClass_of_methodNamed B.named, fun w h => atoms_spec (ws := wsH_isRecord) B.pre w (List.mem_cons_of_mem _ h)⟩ hN B.returns B.notSynchronized out σ x1 x2 ls hl ⟨hP, hD0.self, va_S.rf, hK⟩ hf

def rmH_cellOf : Room := { frames := 0, cells := 0, slots := 0, locals := 0 }
def mH_cellOf (σ : JS) (x0 : Int32) (x1 : Int32) : Option (Int32) :=
  some ((x0 * (8 : Int32)) + x1)
set_option maxHeartbeats 4000000 in
set_option maxRecDepth 100000 in
theorem bH_cellOf {p : Program} {l : Launch} {e : Env} {s : State} {m : MethodId} {args : Array Value} {below : List Frame} {meth : Method} {c : Code} {D : va_G} {ca : Nat → ClassId} {ad : Nat → Nat} {A : Nat → Prop} (hA : ∀ q, s.heap.size ≤ q → A q) (S : CallFix p m c cH_cellOf 2 s args jall RH) (hN : xN A s) (hr : meth.sig.returnType = some .int) (hlk : meth.locks = false) (out : Int32) (σ : JS) (x0 : Int32) (x1 : Int32) (ls : Array Slot) (hl : lv_has ls 2 [(0, .int x0), (1, .int x1)]) (hw : jH D (xT ca) (xC ca ad σ) A s.heap s.heap [] s) (hf : mH_cellOf σ x0 x1 = some out) : W p l e (headSpec wsH_cellOf rmH_cellOf).room s m args below meth c s.heap [] 0 0 (MQ below (jSi out) args s 0 0 (fun _ => False)) (F0 m 0 ls []) := by
  have hx := S.1
  have hb := S.2.1
  unfold mH_cellOf at hf
  refine lv_iload_n (pc := 0) hx hb dH_cellOf_0 rfl (lv_at hl 0 rfl) ?_
  refine lv_bipush (pc := 1) (v := (8 : Int32)) hx hb dH_cellOf_1 (by decide) ?_
  refine lv_imul (pc := 3) hx hb dH_cellOf_3 ?_
  refine lv_iload_n (pc := 4) hx hb dH_cellOf_4 rfl (lv_at hl 1 rfl) ?_
  refine lv_iadd (pc := 5) hx hb dH_cellOf_5 ?_
  obtain rfl := jsm hf
  exact j_ipr (pc := 6) S hr hlk dH_cellOf_6
set_option maxHeartbeats 4000000 in
set_option maxRecDepth 100000 in
theorem kH_cellOf (l : Launch) (D : va_G) (ca : Nat → ClassId) (ad : Nat → Nat) (sz : Nat) (σ : JS) (x0 : Int32) (x1 : Int32) (out : Int32) (hf : mH_cellOf σ x0 x1 = some out) : Met l yH_cellOf wsH_cellOf rmH_cellOf (jPre D (xT ca) (xC ca ad σ) (xN (va_A (xC ca ad σ) sz)) sz [.int x0, .int x1]) (jSi out) 0 0 (fun _ => False) := by
  refine Met.ofW (cc := cH_cellOf) (maxL := 2) (ret := some .int) (by decide) rfl ?_
  intro p e s m args below meth c s₁ B hml hv
  obtain ⟨rfl, hsz, hP, hK, hD0, hN⟩ := hv
  subst hsz
  have hl := lv_entry [.int x0, .int x1] (n := 2) (Nat.le_of_ble_eq_true rfl)
  rw [lg_entry_eq]
  generalize (lg_sl [.int x0, .int x1] ++ List.replicate (2 - (lg_sl [.int x0, .int x1]).length) Slot.unset).toArray = ls at hl ⊢
  exact bH_cellOf (fun q h => Or.inr h) ⟨B.exec, B.bytes, hml, findClass_of_methodNamed B.named, fun w h => atoms_spec (ws := wsH_cellOf) B.pre w (List.mem_cons_of_mem _ h)⟩ hN B.returns B.notSynchronized out σ x0 x1 ls hl ⟨hP, hD0.self, va_S.rf, hK⟩ hf

def rmJ_startOfOldest : Room := { frames := 0, cells := 0, slots := 0, locals := 0 }
def mJ_startOfOldest (σ : JS)  : Option (Int32) :=
  some (((σ 100 1) * (8 : Int32)) + (1 : Int32))
set_option maxHeartbeats 4000000 in
set_option maxRecDepth 100000 in
theorem bJ_startOfOldest {p : Program} {l : Launch} {e : Env} {s : State} {m : MethodId} {args : Array Value} {below : List Frame} {meth : Method} {c : Code} {D : va_G} {ca : Nat → ClassId} {ad : Nat → Nat} {A : Nat → Prop} (hA : ∀ q, s.heap.size ≤ q → A q) (S : CallFix p m c cJ_startOfOldest 1 s args jall RJ) (hN : xN A s) (hr : meth.sig.returnType = some .int) (hlk : meth.locks = false) (out : Int32) (σ : JS)  (ls : Array Slot) (hl : lv_has ls 1 [(0, .ref (ad 1))]) (hw : jH D (xT ca) (xC ca ad σ) A s.heap s.heap [] s) (hf : mJ_startOfOldest σ  = some out) : W p l e (headSpec wsJ_startOfOldest rmJ_startOfOldest).room s m args below meth c s.heap [] 0 0 (MQ below (jSi out) args s 0 0 (fun _ => False)) (F0 m 0 ls []) := by
  have hx := S.1
  have hb := S.2.1
  unfold mJ_startOfOldest at hf
  refine lv_aload_n (pc := 0) hx hb dJ_startOfOldest_0 rfl (lv_at hl 0 rfl) ?_
  refine j_get (pc := 1) (v := .int (σ 100 1)) S hw inJ 1 1 10 xg_1 rfl (by decide) k_51 rfl dJ_startOfOldest_1 ?_
  refine lv_bipush (pc := 4) (v := (8 : Int32)) hx hb dJ_startOfOldest_4 (by decide) ?_
  refine lv_imul (pc := 6) hx hb dJ_startOfOldest_6 ?_
  refine lv_iconst (pc := 7) (v := (1 : Int32)) hx hb dJ_startOfOldest_7 (by decide) ?_
  refine lv_iadd (pc := 8) hx hb dJ_startOfOldest_8 ?_
  obtain rfl := jsm hf
  exact j_ipr (pc := 9) S hr hlk dJ_startOfOldest_9
set_option maxHeartbeats 4000000 in
set_option maxRecDepth 100000 in
theorem kJ_startOfOldest (l : Launch) (D : va_G) (ca : Nat → ClassId) (ad : Nat → Nat) (sz : Nat) (σ : JS)  (out : Int32) (hf : mJ_startOfOldest σ  = some out) : Met l yJ_startOfOldest wsJ_startOfOldest rmJ_startOfOldest (jPre D (xT ca) (xC ca ad σ) (xN (va_A (xC ca ad σ) sz)) sz [.ref (ad 1)]) (jSi out) 0 0 (fun _ => False) := by
  refine Met.ofW (cc := cJ_startOfOldest) (maxL := 1) (ret := some .int) (by decide) rfl ?_
  intro p e s m args below meth c s₁ B hml hv
  obtain ⟨rfl, hsz, hP, hK, hD0, hN⟩ := hv
  subst hsz
  have hl := lv_entry [.ref (ad 1)] (n := 1) (Nat.le_of_ble_eq_true rfl)
  rw [lg_entry_eq]
  generalize (lg_sl [.ref (ad 1)] ++ List.replicate (1 - (lg_sl [.ref (ad 1)]).length) Slot.unset).toArray = ls at hl ⊢
  exact bJ_startOfOldest (fun q h => Or.inr h) ⟨B.exec, B.bytes, hml, findClass_of_methodNamed B.named, fun w h => atoms_spec (ws := wsJ_startOfOldest) B.pre w (List.mem_cons_of_mem _ h)⟩ hN B.returns B.notSynchronized out σ  ls hl ⟨hP, hD0.self, va_S.rf, hK⟩ hf

def rmJ_isCycleOpen : Room := { frames := 0, cells := 0, slots := 0, locals := 0 }
def mJ_isCycleOpen (σ : JS) (x1 : Int32) : Option (Int32) :=
  jrd σ 12 4 x1 fun v1 =>
  if v1 ≤ 0 then
  (some (0 : Int32))
  else
  (some (1 : Int32))
set_option maxHeartbeats 4000000 in
set_option maxRecDepth 100000 in
theorem bJ_isCycleOpen {p : Program} {l : Launch} {e : Env} {s : State} {m : MethodId} {args : Array Value} {below : List Frame} {meth : Method} {c : Code} {D : va_G} {ca : Nat → ClassId} {ad : Nat → Nat} {A : Nat → Prop} (hA : ∀ q, s.heap.size ≤ q → A q) (S : CallFix p m c cJ_isCycleOpen 2 s args jall RJ) (hN : xN A s) (hr : meth.sig.returnType = some .boolean) (hlk : meth.locks = false) (out : Int32) (σ : JS) (x1 : Int32) (ls : Array Slot) (hl : lv_has ls 2 [(0, .ref (ad 1)), (1, .int x1)]) (hw : jH D (xT ca) (xC ca ad σ) A s.heap s.heap [] s) (hf : mJ_isCycleOpen σ x1 = some out) : W p l e (headSpec wsJ_isCycleOpen rmJ_isCycleOpen).room s m args below meth c s.heap [] 0 0 (MQ below (jSi out) args s 0 0 (fun _ => False)) (F0 m 0 ls []) := by
  have hx := S.1
  have hb := S.2.1
  unfold mJ_isCycleOpen at hf
  refine lv_aload_n (pc := 0) hx hb dJ_isCycleOpen_0 rfl (lv_at hl 0 rfl) ?_
  refine j_get (pc := 1) (v := .ref (ad 12)) S hw inJ 1 1 6 xg_1 rfl (by decide) k_45 rfl dJ_isCycleOpen_1 ?_
  refine lv_iload_n (pc := 4) hx hb dJ_isCycleOpen_4 rfl (lv_at hl 1 rfl) ?_
  have hg := jrd_e hf; clear hf; obtain ⟨h2, v1, e3, hf⟩ := hg
  refine j_iald (pc := 5) S hw 12 6 xg_12 xt_12 h2 e3 dJ_isCycleOpen_5 ?_
  refine lv_if_le (pc := 6) (tgt := 13) hx hb dJ_isCycleOpen_6 (by decide) (fun hc => ?_) (fun hc => ?_)
  · replace hf := jit hf hc
    refine lv_iconst (pc := 13) (v := (0 : Int32)) hx hb dJ_isCycleOpen_13 (by decide) ?_
    obtain rfl := jsm hf
    exact j_zpr (pc := 14) S hr hlk (Or.inl rfl) dJ_isCycleOpen_14
  · replace hf := jif hf hc
    refine lv_iconst (pc := 9) (v := (1 : Int32)) hx hb dJ_isCycleOpen_9 (by decide) ?_
    refine lv_goto (pc := 10) (tgt := 14) hx hb dJ_isCycleOpen_10 (by decide) ?_
    obtain rfl := jsm hf
    exact j_zpr (pc := 14) S hr hlk (Or.inr rfl) dJ_isCycleOpen_14
set_option maxHeartbeats 4000000 in
set_option maxRecDepth 100000 in
theorem kJ_isCycleOpen (l : Launch) (D : va_G) (ca : Nat → ClassId) (ad : Nat → Nat) (sz : Nat) (σ : JS) (x1 : Int32) (out : Int32) (hf : mJ_isCycleOpen σ x1 = some out) : Met l yJ_isCycleOpen wsJ_isCycleOpen rmJ_isCycleOpen (jPre D (xT ca) (xC ca ad σ) (xN (va_A (xC ca ad σ) sz)) sz [.ref (ad 1), .int x1]) (jSi out) 0 0 (fun _ => False) := by
  refine Met.ofW (cc := cJ_isCycleOpen) (maxL := 2) (ret := some .boolean) (by decide) rfl ?_
  intro p e s m args below meth c s₁ B hml hv
  obtain ⟨rfl, hsz, hP, hK, hD0, hN⟩ := hv
  subst hsz
  have hl := lv_entry [.ref (ad 1), .int x1] (n := 2) (Nat.le_of_ble_eq_true rfl)
  rw [lg_entry_eq]
  generalize (lg_sl [.ref (ad 1), .int x1] ++ List.replicate (2 - (lg_sl [.ref (ad 1), .int x1]).length) Slot.unset).toArray = ls at hl ⊢
  exact bJ_isCycleOpen (fun q h => Or.inr h) ⟨B.exec, B.bytes, hml, findClass_of_methodNamed B.named, fun w h => atoms_spec (ws := wsJ_isCycleOpen) B.pre w (List.mem_cons_of_mem _ h)⟩ hN B.returns B.notSynchronized out σ x1 ls hl ⟨hP, hD0.self, va_S.rf, hK⟩ hf

def rmJ_isInOpenCycle : Room := { frames := 1, cells := 0, slots := 0, locals := 21 }
def mJ_isInOpenCycle (σ : JS) (x1 : Int32) : Option (Int32) :=
  jrd σ 7 121 x1 fun v1 =>
  jbn (mJ_isCycleOpen σ v1) fun q4 =>
  if q4 = 0 then
  (some (0 : Int32))
  else
  (jrd σ 12 4 v1 fun v6 =>
  if x1 < v6 then
  (some (0 : Int32))
  else
  (some (1 : Int32)))
set_option maxHeartbeats 4000000 in
set_option maxRecDepth 100000 in
theorem bJ_isInOpenCycle {p : Program} {l : Launch} {e : Env} {s : State} {m : MethodId} {args : Array Value} {below : List Frame} {meth : Method} {c : Code} {D : va_G} {ca : Nat → ClassId} {ad : Nat → Nat} {A : Nat → Prop} (hA : ∀ q, s.heap.size ≤ q → A q) (S : CallFix p m c cJ_isInOpenCycle 3 s args jall RJ) (hN : xN A s) (hr : meth.sig.returnType = some .boolean) (hlk : meth.locks = false) (out : Int32) (σ : JS) (x1 : Int32) (ls : Array Slot) (hl : lv_has ls 3 [(0, .ref (ad 1)), (1, .int x1)]) (hw : jH D (xT ca) (xC ca ad σ) A s.heap s.heap [] s) (hf : mJ_isInOpenCycle σ x1 = some out) : W p l e (headSpec wsJ_isInOpenCycle rmJ_isInOpenCycle).room s m args below meth c s.heap [] 0 0 (MQ below (jSi out) args s 0 0 (fun _ => False)) (F0 m 0 ls []) := by
  have hx := S.1
  have hb := S.2.1
  unfold mJ_isInOpenCycle at hf
  refine lv_aload_n (pc := 0) hx hb dJ_isInOpenCycle_0 rfl (lv_at hl 0 rfl) ?_
  refine j_get (pc := 1) (v := .ref (ad 7)) S hw inJ 1 1 1 xg_1 rfl (by decide) k_32 rfl dJ_isInOpenCycle_1 ?_
  refine lv_iload_n (pc := 4) hx hb dJ_isInOpenCycle_4 rfl (lv_at hl 1 rfl) ?_
  have hg := jrd_e hf; clear hf; obtain ⟨h2, v1, e3, hf⟩ := hg
  refine j_iald (pc := 5) S hw 7 1 xg_7 xt_7 h2 e3 dJ_isInOpenCycle_5 ?_
  refine lv_istore_n (pc := 6) (lv' := [(2, .int v1), (0, .ref (ad 1)), (1, .int x1)]) hx hb dJ_isInOpenCycle_6 rfl hl (by decide) rfl (fun ls hl => ?_)
  refine lv_aload_n (pc := 7) hx hb dJ_isInOpenCycle_7 rfl (lv_at hl 1 rfl) ?_
  refine lv_iload_n (pc := 8) hx hb dJ_isInOpenCycle_8 rfl (lv_at hl 0 rfl) ?_
  have hg := jbn_e hf; clear hf; obtain ⟨q4, h5, hf⟩ := hg
  refine j_cpi (pc := 9) (v := q4) (va_runV (As := [.int v1]) (rest := []) S (kJ_isCycleOpen l D ca ad _ σ v1 q4 h5) (cwV 1 S.2.2.2.2 (jgV k_374 k_375 k_376 k_2 k_377) rfl rfl rfl (by decide +kernel) ⟨Nat.le_of_ble_eq_true rfl, Nat.le_of_ble_eq_true rfl⟩) (j_preV (As := [.int v1]) hw xN_b (xN_to hN hw hA) rfl xg_1) rfl rfl hl.1 rfl (lv_room (Nat.le_of_ble_eq_true rfl)) dJ_isInOpenCycle_9 ⟨Nat.le_of_ble_eq_true rfl, Nat.le_of_ble_eq_true rfl⟩) ?_
  refine lv_if_eq (pc := 12) (tgt := 29) hx hb dJ_isInOpenCycle_12 (by decide) (fun hc => ?_) (fun hc => ?_)
  · replace hf := jit hf hc
    refine lv_iconst (pc := 29) (v := (0 : Int32)) hx hb dJ_isInOpenCycle_29 (by decide) ?_
    obtain rfl := jsm hf
    exact j_zpr (pc := 30) S hr hlk (Or.inl rfl) dJ_isInOpenCycle_30
  · replace hf := jif hf hc
    refine lv_iload_n (pc := 15) hx hb dJ_isInOpenCycle_15 rfl (lv_at hl 2 rfl) ?_
    refine lv_aload_n (pc := 16) hx hb dJ_isInOpenCycle_16 rfl (lv_at hl 1 rfl) ?_
    refine j_get (pc := 17) (v := .ref (ad 12)) S hw inJ 1 1 6 xg_1 rfl (by decide) k_45 rfl dJ_isInOpenCycle_17 ?_
    refine lv_iload_n (pc := 20) hx hb dJ_isInOpenCycle_20 rfl (lv_at hl 0 rfl) ?_
    have hg := jrd_e hf; clear hf; obtain ⟨h7, v6, e8, hf⟩ := hg
    refine j_iald (pc := 21) S hw 12 6 xg_12 xt_12 h7 e8 dJ_isInOpenCycle_21 ?_
    refine lv_icmp_lt (pc := 22) (tgt := 29) hx hb dJ_isInOpenCycle_22 (by decide) (fun hc => ?_) (fun hc => ?_)
    · replace hf := jit hf hc
      refine lv_iconst (pc := 29) (v := (0 : Int32)) hx hb dJ_isInOpenCycle_29 (by decide) ?_
      obtain rfl := jsm hf
      exact j_zpr (pc := 30) S hr hlk (Or.inl rfl) dJ_isInOpenCycle_30
    · replace hf := jif hf hc
      refine lv_iconst (pc := 25) (v := (1 : Int32)) hx hb dJ_isInOpenCycle_25 (by decide) ?_
      refine lv_goto (pc := 26) (tgt := 30) hx hb dJ_isInOpenCycle_26 (by decide) ?_
      obtain rfl := jsm hf
      exact j_zpr (pc := 30) S hr hlk (Or.inr rfl) dJ_isInOpenCycle_30
set_option maxHeartbeats 4000000 in
set_option maxRecDepth 100000 in
theorem kJ_isInOpenCycle (l : Launch) (D : va_G) (ca : Nat → ClassId) (ad : Nat → Nat) (sz : Nat) (σ : JS) (x1 : Int32) (out : Int32) (hf : mJ_isInOpenCycle σ x1 = some out) : Met l yJ_isInOpenCycle wsJ_isInOpenCycle rmJ_isInOpenCycle (jPre D (xT ca) (xC ca ad σ) (xN (va_A (xC ca ad σ) sz)) sz [.ref (ad 1), .int x1]) (jSi out) 0 0 (fun _ => False) := by
  refine Met.ofW (cc := cJ_isInOpenCycle) (maxL := 3) (ret := some .boolean) (by decide) rfl ?_
  intro p e s m args below meth c s₁ B hml hv
  obtain ⟨rfl, hsz, hP, hK, hD0, hN⟩ := hv
  subst hsz
  have hl := lv_entry [.ref (ad 1), .int x1] (n := 3) (Nat.le_of_ble_eq_true rfl)
  rw [lg_entry_eq]
  generalize (lg_sl [.ref (ad 1), .int x1] ++ List.replicate (3 - (lg_sl [.ref (ad 1), .int x1]).length) Slot.unset).toArray = ls at hl ⊢
  exact bJ_isInOpenCycle (fun q h => Or.inr h) ⟨B.exec, B.bytes, hml, findClass_of_methodNamed B.named, fun w h => atoms_spec (ws := wsJ_isInOpenCycle) B.pre w (List.mem_cons_of_mem _ h)⟩ hN B.returns B.notSynchronized out σ x1 ls hl ⟨hP, hD0.self, va_S.rf, hK⟩ hf

def rmJ_isLockedByAnother : Room := { frames := 2, cells := 0, slots := 0, locals := 43 }
def mJ_isLockedByAnother_L5 (σ : JS) (x1 : Int32) (x2 : Int32) : Nat → Int32 → Option (Int32)
  | 0, _ => none
  | n + 1, x3 =>
    if (σ 100 0) < x3 then
    (some (0 : Int32))
    else
    (jrd σ 6 121 x3 fun v3 =>
    if v3 = (1 : Int32) then
    (jrd σ 8 121 x3 fun v6 =>
    if v6 = x2 then
    (jrd σ 7 121 x3 fun v9 =>
    if v9 = x1 then
    (mJ_isLockedByAnother_L5 σ x1 x2 n (x3 + 1))
    else
    (jbn (mJ_isInOpenCycle σ x3) fun q12 =>
    if q12 = 0 then
    (mJ_isLockedByAnother_L5 σ x1 x2 n (x3 + 1))
    else
    (some (1 : Int32))))
    else
    (mJ_isLockedByAnother_L5 σ x1 x2 n (x3 + 1)))
    else
    (mJ_isLockedByAnother_L5 σ x1 x2 n (x3 + 1)))
def mJ_isLockedByAnother (σ : JS) (x1 : Int32) (x2 : Int32) : Option (Int32) :=
  jbn (mJ_startOfOldest σ ) fun q1 =>
  mJ_isLockedByAnother_L5 σ x1 x2 999 q1
set_option maxHeartbeats 4000000 in
set_option maxRecDepth 100000 in
theorem wmJ_isLockedByAnother_L5 {p : Program} {l : Launch} {e : Env} {s : State} {m : MethodId} {args : Array Value} {below : List Frame} {meth : Method} {c : Code} {D : va_G} {ca : Nat → ClassId} {ad : Nat → Nat} {A : Nat → Prop} (hA : ∀ q, s.heap.size ≤ q → A q) (S : CallFix p m c cJ_isLockedByAnother 4 s args jall RJ) (hN : xN A s) (hr : meth.sig.returnType = some .boolean) (hlk : meth.locks = false) (out : Int32) (σ : JS) (x1 : Int32) (x2 : Int32) : ∀ (n : Nat) (x3 : Int32) (ls : Array Slot) , lv_has ls 4 [(0, .ref (ad 1)), (1, .int x1), (2, .int x2), (3, .int x3)] → jH D (xT ca) (xC ca ad σ) A s.heap s.heap [] s → mJ_isLockedByAnother_L5 σ x1 x2 n x3 = some out → W p l e (headSpec wsJ_isLockedByAnother rmJ_isLockedByAnother).room s m args below meth c s.heap [] 0 0 (MQ below (jSi out) args s 0 0 (fun _ => False)) (F0 m 5 ls []) := by
  have hx := S.1
  have hb := S.2.1
  intro n
  induction n with
  | zero => intro x3 ls hl hw hf; cases hf
  | succ n ih =>
    intro x3 ls hl hw hf
    rw [mJ_isLockedByAnother_L5] at hf
    refine lv_iload_n (pc := 5) hx hb dJ_isLockedByAnother_5 rfl (lv_at hl 3 rfl) ?_
    refine lv_aload_n (pc := 6) hx hb dJ_isLockedByAnother_6 rfl (lv_at hl 0 rfl) ?_
    refine j_get (pc := 7) (v := .int (σ 100 0)) S hw inJ 1 1 9 xg_1 rfl (by decide) k_49 rfl dJ_isLockedByAnother_7 ?_
    refine lv_icmp_gt (pc := 10) (tgt := 59) hx hb dJ_isLockedByAnother_10 (by decide) (fun hc => ?_) (fun hc => ?_)
    · replace hf := jit hf hc
      refine lv_iconst (pc := 59) (v := (0 : Int32)) hx hb dJ_isLockedByAnother_59 (by decide) ?_
      obtain rfl := jsm hf
      exact j_zpr (pc := 60) S hr hlk (Or.inl rfl) dJ_isLockedByAnother_60
    · replace hf := jif hf hc
      refine lv_aload_n (pc := 13) hx hb dJ_isLockedByAnother_13 rfl (lv_at hl 0 rfl) ?_
      refine j_get (pc := 14) (v := .ref (ad 6)) S hw inJ 1 1 0 xg_1 rfl (by decide) k_29 rfl dJ_isLockedByAnother_14 ?_
      refine lv_iload_n (pc := 17) hx hb dJ_isLockedByAnother_17 rfl (lv_at hl 3 rfl) ?_
      have hg := jrd_e hf; clear hf; obtain ⟨h4, v3, e5, hf⟩ := hg
      refine j_iald (pc := 18) S hw 6 0 xg_6 xt_6 h4 e5 dJ_isLockedByAnother_18 ?_
      refine lv_iconst (pc := 19) (v := (1 : Int32)) hx hb dJ_isLockedByAnother_19 (by decide) ?_
      refine lv_icmp_ne (pc := 20) (tgt := 53) hx hb dJ_isLockedByAnother_20 (by decide) (fun hc => ?_) (fun hc => ?_)
      · replace hf := jif hf hc
        refine lv_iinc (pc := 53) (v := (x3 + 1)) (k := 3) (lv' := [(3, .int (x3 + 1)), (0, .ref (ad 1)), (1, .int x1), (2, .int x2)]) hx hb dJ_isLockedByAnother_53 hl rfl (j_inc _ (by decide)) (by decide) rfl (fun ls hl => ?_)
        refine lv_goto (pc := 56) (tgt := 5) hx hb dJ_isLockedByAnother_56 (by decide) ?_
        exact ih (x3 + 1) _ (lv_sub hl [1, 2, 3, 0] rfl) hw hf
      · replace hf := jit hf hc
        refine lv_aload_n (pc := 23) hx hb dJ_isLockedByAnother_23 rfl (lv_at hl 0 rfl) ?_
        refine j_get (pc := 24) (v := .ref (ad 8)) S hw inJ 1 1 2 xg_1 rfl (by decide) k_35 rfl dJ_isLockedByAnother_24 ?_
        refine lv_iload_n (pc := 27) hx hb dJ_isLockedByAnother_27 rfl (lv_at hl 3 rfl) ?_
        have hg := jrd_e hf; clear hf; obtain ⟨h7, v6, e8, hf⟩ := hg
        refine j_iald (pc := 28) S hw 8 2 xg_8 xt_8 h7 e8 dJ_isLockedByAnother_28 ?_
        refine lv_iload_n (pc := 29) hx hb dJ_isLockedByAnother_29 rfl (lv_at hl 2 rfl) ?_
        refine lv_icmp_ne (pc := 30) (tgt := 53) hx hb dJ_isLockedByAnother_30 (by decide) (fun hc => ?_) (fun hc => ?_)
        · replace hf := jif hf hc
          refine lv_iinc (pc := 53) (v := (x3 + 1)) (k := 3) (lv' := [(3, .int (x3 + 1)), (0, .ref (ad 1)), (1, .int x1), (2, .int x2)]) hx hb dJ_isLockedByAnother_53 hl rfl (j_inc _ (by decide)) (by decide) rfl (fun ls hl => ?_)
          refine lv_goto (pc := 56) (tgt := 5) hx hb dJ_isLockedByAnother_56 (by decide) ?_
          exact ih (x3 + 1) _ (lv_sub hl [1, 2, 3, 0] rfl) hw hf
        · replace hf := jit hf hc
          refine lv_aload_n (pc := 33) hx hb dJ_isLockedByAnother_33 rfl (lv_at hl 0 rfl) ?_
          refine j_get (pc := 34) (v := .ref (ad 7)) S hw inJ 1 1 1 xg_1 rfl (by decide) k_32 rfl dJ_isLockedByAnother_34 ?_
          refine lv_iload_n (pc := 37) hx hb dJ_isLockedByAnother_37 rfl (lv_at hl 3 rfl) ?_
          have hg := jrd_e hf; clear hf; obtain ⟨h10, v9, e11, hf⟩ := hg
          refine j_iald (pc := 38) S hw 7 1 xg_7 xt_7 h10 e11 dJ_isLockedByAnother_38 ?_
          refine lv_iload_n (pc := 39) hx hb dJ_isLockedByAnother_39 rfl (lv_at hl 1 rfl) ?_
          refine lv_icmp_eq (pc := 40) (tgt := 53) hx hb dJ_isLockedByAnother_40 (by decide) (fun hc => ?_) (fun hc => ?_)
          · replace hf := jit hf hc
            refine lv_iinc (pc := 53) (v := (x3 + 1)) (k := 3) (lv' := [(3, .int (x3 + 1)), (0, .ref (ad 1)), (1, .int x1), (2, .int x2)]) hx hb dJ_isLockedByAnother_53 hl rfl (j_inc _ (by decide)) (by decide) rfl (fun ls hl => ?_)
            refine lv_goto (pc := 56) (tgt := 5) hx hb dJ_isLockedByAnother_56 (by decide) ?_
            exact ih (x3 + 1) _ (lv_sub hl [1, 2, 3, 0] rfl) hw hf
          · replace hf := jif hf hc
            refine lv_aload_n (pc := 43) hx hb dJ_isLockedByAnother_43 rfl (lv_at hl 0 rfl) ?_
            refine lv_iload_n (pc := 44) hx hb dJ_isLockedByAnother_44 rfl (lv_at hl 3 rfl) ?_
            have hg := jbn_e hf; clear hf; obtain ⟨q12, h13, hf⟩ := hg
            refine j_cpi (pc := 45) (v := q12) (va_runV (As := [.int x3]) (rest := []) S (kJ_isInOpenCycle l D ca ad _ σ x3 q12 h13) (cwV 1 S.2.2.2.2 (jgV k_370 k_372 ks_1 k_2 k_373) rfl rfl rfl (by decide +kernel) ⟨Nat.le_of_ble_eq_true rfl, Nat.le_of_ble_eq_true rfl⟩) (j_preV (As := [.int x3]) hw xN_b (xN_to hN hw hA) rfl xg_1) rfl rfl hl.1 rfl (lv_room (Nat.le_of_ble_eq_true rfl)) dJ_isLockedByAnother_45 ⟨Nat.le_of_ble_eq_true rfl, Nat.le_of_ble_eq_true rfl⟩) ?_
            refine lv_if_eq (pc := 48) (tgt := 53) hx hb dJ_isLockedByAnother_48 (by decide) (fun hc => ?_) (fun hc => ?_)
            · replace hf := jit hf hc
              refine lv_iinc (pc := 53) (v := (x3 + 1)) (k := 3) (lv' := [(3, .int (x3 + 1)), (0, .ref (ad 1)), (1, .int x1), (2, .int x2)]) hx hb dJ_isLockedByAnother_53 hl rfl (j_inc _ (by decide)) (by decide) rfl (fun ls hl => ?_)
              refine lv_goto (pc := 56) (tgt := 5) hx hb dJ_isLockedByAnother_56 (by decide) ?_
              exact ih (x3 + 1) _ (lv_sub hl [1, 2, 3, 0] rfl) hw hf
            · replace hf := jif hf hc
              refine lv_iconst (pc := 51) (v := (1 : Int32)) hx hb dJ_isLockedByAnother_51 (by decide) ?_
              obtain rfl := jsm hf
              exact j_zpr (pc := 52) S hr hlk (Or.inr rfl) dJ_isLockedByAnother_52
set_option maxHeartbeats 4000000 in
set_option maxRecDepth 100000 in
theorem bJ_isLockedByAnother {p : Program} {l : Launch} {e : Env} {s : State} {m : MethodId} {args : Array Value} {below : List Frame} {meth : Method} {c : Code} {D : va_G} {ca : Nat → ClassId} {ad : Nat → Nat} {A : Nat → Prop} (hA : ∀ q, s.heap.size ≤ q → A q) (S : CallFix p m c cJ_isLockedByAnother 4 s args jall RJ) (hN : xN A s) (hr : meth.sig.returnType = some .boolean) (hlk : meth.locks = false) (out : Int32) (σ : JS) (x1 : Int32) (x2 : Int32) (ls : Array Slot) (hl : lv_has ls 4 [(0, .ref (ad 1)), (1, .int x1), (2, .int x2)]) (hw : jH D (xT ca) (xC ca ad σ) A s.heap s.heap [] s) (hf : mJ_isLockedByAnother σ x1 x2 = some out) : W p l e (headSpec wsJ_isLockedByAnother rmJ_isLockedByAnother).room s m args below meth c s.heap [] 0 0 (MQ below (jSi out) args s 0 0 (fun _ => False)) (F0 m 0 ls []) := by
  have hx := S.1
  have hb := S.2.1
  unfold mJ_isLockedByAnother at hf
  refine lv_aload_n (pc := 0) hx hb dJ_isLockedByAnother_0 rfl (lv_at hl 0 rfl) ?_
  have hg := jbn_e hf; clear hf; obtain ⟨q1, h2, hf⟩ := hg
  refine j_cpi (pc := 1) (v := q1) (va_runV (As := []) (rest := []) S (kJ_startOfOldest l D ca ad _ σ  q1 h2) (cwV 0 S.2.2.2.2 (jgV k_243 k_244 k_245 k_2 k_246) rfl rfl rfl (by decide +kernel) ⟨Nat.le_of_ble_eq_true rfl, Nat.le_of_ble_eq_true rfl⟩) (j_preV (As := []) hw xN_b (xN_to hN hw hA) rfl xg_1) rfl rfl hl.1 rfl (lv_room (Nat.le_of_ble_eq_true rfl)) dJ_isLockedByAnother_1 ⟨Nat.le_of_ble_eq_true rfl, Nat.le_of_ble_eq_true rfl⟩) ?_
  refine lv_istore_n (pc := 4) (lv' := [(3, .int q1), (0, .ref (ad 1)), (1, .int x1), (2, .int x2)]) hx hb dJ_isLockedByAnother_4 rfl hl (by decide) rfl (fun ls hl => ?_)
  exact wmJ_isLockedByAnother_L5 hA S hN hr hlk out σ x1 x2 999 q1 _ (lv_sub hl [1, 2, 3, 0] rfl) hw hf
set_option maxHeartbeats 4000000 in
set_option maxRecDepth 100000 in
theorem kJ_isLockedByAnother (l : Launch) (D : va_G) (ca : Nat → ClassId) (ad : Nat → Nat) (sz : Nat) (σ : JS) (x1 : Int32) (x2 : Int32) (out : Int32) (hf : mJ_isLockedByAnother σ x1 x2 = some out) : Met l yJ_isLockedByAnother wsJ_isLockedByAnother rmJ_isLockedByAnother (jPre D (xT ca) (xC ca ad σ) (xN (va_A (xC ca ad σ) sz)) sz [.ref (ad 1), .int x1, .int x2]) (jSi out) 0 0 (fun _ => False) := by
  refine Met.ofW (cc := cJ_isLockedByAnother) (maxL := 4) (ret := some .boolean) (by decide) rfl ?_
  intro p e s m args below meth c s₁ B hml hv
  obtain ⟨rfl, hsz, hP, hK, hD0, hN⟩ := hv
  subst hsz
  have hl := lv_entry [.ref (ad 1), .int x1, .int x2] (n := 4) (Nat.le_of_ble_eq_true rfl)
  rw [lg_entry_eq]
  generalize (lg_sl [.ref (ad 1), .int x1, .int x2] ++ List.replicate (4 - (lg_sl [.ref (ad 1), .int x1, .int x2]).length) Slot.unset).toArray = ls at hl ⊢
  exact bJ_isLockedByAnother (fun q h => Or.inr h) ⟨B.exec, B.bytes, hml, findClass_of_methodNamed B.named, fun w h => atoms_spec (ws := wsJ_isLockedByAnother) B.pre w (List.mem_cons_of_mem _ h)⟩ hN B.returns B.notSynchronized out σ x1 x2 ls hl ⟨hP, hD0.self, va_S.rf, hK⟩ hf

def rmJ_room : Room := { frames := 1, cells := 0, slots := 0, locals := 17 }
def mJ_room (σ : JS)  : Option (Int32) :=
  jmn (120 : Int32) ((8 : Int32) * ((σ 100 1) + (6 : Int32))) fun v1 =>
  some (v1 - (σ 100 0))
set_option maxHeartbeats 4000000 in
set_option maxRecDepth 100000 in
theorem bJ_room {p : Program} {l : Launch} {e : Env} {s : State} {m : MethodId} {args : Array Value} {below : List Frame} {meth : Method} {c : Code} {D : va_G} {ca : Nat → ClassId} {ad : Nat → Nat} {A : Nat → Prop} (hA : ∀ q, s.heap.size ≤ q → A q) (S : CallFix p m c cJ_room 1 s args jall RJ) (hN : xN A s) (hr : meth.sig.returnType = some .int) (hlk : meth.locks = false) (out : Int32) (σ : JS)  (ls : Array Slot) (hl : lv_has ls 1 [(0, .ref (ad 1))]) (hw : jH D (xT ca) (xC ca ad σ) A s.heap s.heap [] s) (hf : mJ_room σ  = some out) : W p l e (headSpec wsJ_room rmJ_room).room s m args below meth c s.heap [] 0 0 (MQ below (jSi out) args s 0 0 (fun _ => False)) (F0 m 0 ls []) := by
  have hx := S.1
  have hb := S.2.1
  unfold mJ_room at hf
  refine lv_bipush (pc := 0) (v := (120 : Int32)) hx hb dJ_room_0 (by decide) ?_
  refine lv_bipush (pc := 2) (v := (8 : Int32)) hx hb dJ_room_2 (by decide) ?_
  refine lv_aload_n (pc := 4) hx hb dJ_room_4 rfl (lv_at hl 0 rfl) ?_
  refine j_get (pc := 5) (v := .int (σ 100 1)) S hw inJ 1 1 10 xg_1 rfl (by decide) k_51 rfl dJ_room_5 ?_
  refine lv_bipush (pc := 8) (v := (6 : Int32)) hx hb dJ_room_8 (by decide) ?_
  refine lv_iadd (pc := 10) hx hb dJ_room_10 ?_
  refine lv_imul (pc := 11) hx hb dJ_room_11 ?_
  have hg := jmn_e hf; clear hf; obtain ⟨v1, e2, hf⟩ := hg
  refine va_mmin (pc := 12) hx hb (S.2.2.1.trans hl.1.symm) S.2.2.2.1 (S.2.2.2.2 _ k_386) (S.2.2.2.2 _ k_387) (S.2.2.2.2 _ k_13) (S.2.2.2.2 _ k_388) (Nat.le_of_ble_eq_true rfl) (Nat.le_of_ble_eq_true rfl) (Nat.zero_le _) (Nat.zero_le _) dJ_room_12 ?_
  rw [← e2]
  refine lv_aload_n (pc := 15) hx hb dJ_room_15 rfl (lv_at hl 0 rfl) ?_
  refine j_get (pc := 16) (v := .int (σ 100 0)) S hw inJ 1 1 9 xg_1 rfl (by decide) k_49 rfl dJ_room_16 ?_
  refine lv_isub (pc := 19) hx hb dJ_room_19 ?_
  obtain rfl := jsm hf
  exact j_ipr (pc := 20) S hr hlk dJ_room_20
set_option maxHeartbeats 4000000 in
set_option maxRecDepth 100000 in
theorem kJ_room (l : Launch) (D : va_G) (ca : Nat → ClassId) (ad : Nat → Nat) (sz : Nat) (σ : JS)  (out : Int32) (hf : mJ_room σ  = some out) : Met l yJ_room wsJ_room rmJ_room (jPre D (xT ca) (xC ca ad σ) (xN (va_A (xC ca ad σ) sz)) sz [.ref (ad 1)]) (jSi out) 0 0 (fun _ => False) := by
  refine Met.ofW (cc := cJ_room) (maxL := 1) (ret := some .int) (by decide) rfl ?_
  intro p e s m args below meth c s₁ B hml hv
  obtain ⟨rfl, hsz, hP, hK, hD0, hN⟩ := hv
  subst hsz
  have hl := lv_entry [.ref (ad 1)] (n := 1) (Nat.le_of_ble_eq_true rfl)
  rw [lg_entry_eq]
  generalize (lg_sl [.ref (ad 1)] ++ List.replicate (1 - (lg_sl [.ref (ad 1)]).length) Slot.unset).toArray = ls at hl ⊢
  exact bJ_room (fun q h => Or.inr h) ⟨B.exec, B.bytes, hml, findClass_of_methodNamed B.named, fun w h => atoms_spec (ws := wsJ_room) B.pre w (List.mem_cons_of_mem _ h)⟩ hN B.returns B.notSynchronized out σ  ls hl ⟨hP, hD0.self, va_S.rf, hK⟩ hf

def rmJ_reserve : Room := { frames := 1, cells := 0, slots := 0, locals := 21 }
def mJ_reserve_L4 (σ : JS) : Nat → Int32 → Int32 → Option (Int32)
  | 0, _, _ => none
  | n + 1, x1, x2 =>
    if (3 : Int32) ≤ x2 then
    (some x1)
    else
    (jbn (mJ_isCycleOpen σ x2) fun q1 =>
    if q1 = 0 then
    (mJ_reserve_L4 σ n x1 (x2 + 1))
    else
    (jrd σ 13 4 x2 fun v3 =>
    mJ_reserve_L4 σ n (x1 + (v3 + (1 : Int32))) (x2 + 1)))
def mJ_reserve (σ : JS)  : Option (Int32) :=
  mJ_reserve_L4 σ 999 (0 : Int32) (0 : Int32)
set_option maxHeartbeats 4000000 in
set_option maxRecDepth 100000 in
theorem wmJ_reserve_L4 {p : Program} {l : Launch} {e : Env} {s : State} {m : MethodId} {args : Array Value} {below : List Frame} {meth : Method} {c : Code} {D : va_G} {ca : Nat → ClassId} {ad : Nat → Nat} {A : Nat → Prop} (hA : ∀ q, s.heap.size ≤ q → A q) (S : CallFix p m c cJ_reserve 3 s args jall RJ) (hN : xN A s) (hr : meth.sig.returnType = some .int) (hlk : meth.locks = false) (out : Int32) (σ : JS) : ∀ (n : Nat) (x1 : Int32) (x2 : Int32) (ls : Array Slot) , lv_has ls 3 [(0, .ref (ad 1)), (1, .int x1), (2, .int x2)] → jH D (xT ca) (xC ca ad σ) A s.heap s.heap [] s → mJ_reserve_L4 σ n x1 x2 = some out → W p l e (headSpec wsJ_reserve rmJ_reserve).room s m args below meth c s.heap [] 0 0 (MQ below (jSi out) args s 0 0 (fun _ => False)) (F0 m 4 ls []) := by
  have hx := S.1
  have hb := S.2.1
  intro n
  induction n with
  | zero => intro x1 x2 ls hl hw hf; cases hf
  | succ n ih =>
    intro x1 x2 ls hl hw hf
    rw [mJ_reserve_L4] at hf
    refine lv_iload_n (pc := 4) hx hb dJ_reserve_4 rfl (lv_at hl 2 rfl) ?_
    refine lv_iconst (pc := 5) (v := (3 : Int32)) hx hb dJ_reserve_5 (by decide) ?_
    refine lv_icmp_ge (pc := 6) (tgt := 34) hx hb dJ_reserve_6 (by decide) (fun hc => ?_) (fun hc => ?_)
    · replace hf := jit hf hc
      refine lv_iload_n (pc := 34) hx hb dJ_reserve_34 rfl (lv_at hl 1 rfl) ?_
      obtain rfl := jsm hf
      exact j_ipr (pc := 35) S hr hlk dJ_reserve_35
    · replace hf := jif hf hc
      refine lv_aload_n (pc := 9) hx hb dJ_reserve_9 rfl (lv_at hl 0 rfl) ?_
      refine lv_iload_n (pc := 10) hx hb dJ_reserve_10 rfl (lv_at hl 2 rfl) ?_
      have hg := jbn_e hf; clear hf; obtain ⟨q1, h2, hf⟩ := hg
      refine j_cpi (pc := 11) (v := q1) (va_runV (As := [.int x2]) (rest := []) S (kJ_isCycleOpen l D ca ad _ σ x2 q1 h2) (cwV 1 S.2.2.2.2 (jgV k_374 k_375 k_376 k_2 k_377) rfl rfl rfl (by decide +kernel) ⟨Nat.le_of_ble_eq_true rfl, Nat.le_of_ble_eq_true rfl⟩) (j_preV (As := [.int x2]) hw xN_b (xN_to hN hw hA) rfl xg_1) rfl rfl hl.1 rfl (lv_room (Nat.le_of_ble_eq_true rfl)) dJ_reserve_11 ⟨Nat.le_of_ble_eq_true rfl, Nat.le_of_ble_eq_true rfl⟩) ?_
      refine lv_if_eq (pc := 14) (tgt := 28) hx hb dJ_reserve_14 (by decide) (fun hc => ?_) (fun hc => ?_)
      · replace hf := jit hf hc
        refine lv_iinc (pc := 28) (v := (x2 + 1)) (k := 2) (lv' := [(2, .int (x2 + 1)), (0, .ref (ad 1)), (1, .int x1)]) hx hb dJ_reserve_28 hl rfl (j_inc _ (by decide)) (by decide) rfl (fun ls hl => ?_)
        refine lv_goto (pc := 31) (tgt := 4) hx hb dJ_reserve_31 (by decide) ?_
        exact ih x1 (x2 + 1) _ (lv_sub hl [1, 2, 0] rfl) hw hf
      · replace hf := jif hf hc
        refine lv_iload_n (pc := 17) hx hb dJ_reserve_17 rfl (lv_at hl 1 rfl) ?_
        refine lv_aload_n (pc := 18) hx hb dJ_reserve_18 rfl (lv_at hl 0 rfl) ?_
        refine j_get (pc := 19) (v := .ref (ad 13)) S hw inJ 1 1 7 xg_1 rfl (by decide) k_47 rfl dJ_reserve_19 ?_
        refine lv_iload_n (pc := 22) hx hb dJ_reserve_22 rfl (lv_at hl 2 rfl) ?_
        have hg := jrd_e hf; clear hf; obtain ⟨h4, v3, e5, hf⟩ := hg
        refine j_iald (pc := 23) S hw 13 7 xg_13 xt_13 h4 e5 dJ_reserve_23 ?_
        refine lv_iconst (pc := 24) (v := (1 : Int32)) hx hb dJ_reserve_24 (by decide) ?_
        refine lv_iadd (pc := 25) hx hb dJ_reserve_25 ?_
        refine lv_iadd (pc := 26) hx hb dJ_reserve_26 ?_
        refine lv_istore_n (pc := 27) (lv' := [(1, .int (x1 + (v3 + (1 : Int32)))), (0, .ref (ad 1)), (2, .int x2)]) hx hb dJ_reserve_27 rfl hl (by decide) rfl (fun ls hl => ?_)
        refine lv_iinc (pc := 28) (v := (x2 + 1)) (k := 2) (lv' := [(2, .int (x2 + 1)), (1, .int (x1 + (v3 + (1 : Int32)))), (0, .ref (ad 1))]) hx hb dJ_reserve_28 hl rfl (j_inc _ (by decide)) (by decide) rfl (fun ls hl => ?_)
        refine lv_goto (pc := 31) (tgt := 4) hx hb dJ_reserve_31 (by decide) ?_
        exact ih (x1 + (v3 + (1 : Int32))) (x2 + 1) _ (lv_sub hl [2, 1, 0] rfl) hw hf
set_option maxHeartbeats 4000000 in
set_option maxRecDepth 100000 in
theorem bJ_reserve {p : Program} {l : Launch} {e : Env} {s : State} {m : MethodId} {args : Array Value} {below : List Frame} {meth : Method} {c : Code} {D : va_G} {ca : Nat → ClassId} {ad : Nat → Nat} {A : Nat → Prop} (hA : ∀ q, s.heap.size ≤ q → A q) (S : CallFix p m c cJ_reserve 3 s args jall RJ) (hN : xN A s) (hr : meth.sig.returnType = some .int) (hlk : meth.locks = false) (out : Int32) (σ : JS)  (ls : Array Slot) (hl : lv_has ls 3 [(0, .ref (ad 1))]) (hw : jH D (xT ca) (xC ca ad σ) A s.heap s.heap [] s) (hf : mJ_reserve σ  = some out) : W p l e (headSpec wsJ_reserve rmJ_reserve).room s m args below meth c s.heap [] 0 0 (MQ below (jSi out) args s 0 0 (fun _ => False)) (F0 m 0 ls []) := by
  have hx := S.1
  have hb := S.2.1
  unfold mJ_reserve at hf
  refine lv_iconst (pc := 0) (v := (0 : Int32)) hx hb dJ_reserve_0 (by decide) ?_
  refine lv_istore_n (pc := 1) (lv' := [(1, .int (0 : Int32)), (0, .ref (ad 1))]) hx hb dJ_reserve_1 rfl hl (by decide) rfl (fun ls hl => ?_)
  refine lv_iconst (pc := 2) (v := (0 : Int32)) hx hb dJ_reserve_2 (by decide) ?_
  refine lv_istore_n (pc := 3) (lv' := [(2, .int (0 : Int32)), (1, .int (0 : Int32)), (0, .ref (ad 1))]) hx hb dJ_reserve_3 rfl hl (by decide) rfl (fun ls hl => ?_)
  exact wmJ_reserve_L4 hA S hN hr hlk out σ 999 (0 : Int32) (0 : Int32) _ (lv_sub hl [2, 1, 0] rfl) hw hf
set_option maxHeartbeats 4000000 in
set_option maxRecDepth 100000 in
theorem kJ_reserve (l : Launch) (D : va_G) (ca : Nat → ClassId) (ad : Nat → Nat) (sz : Nat) (σ : JS)  (out : Int32) (hf : mJ_reserve σ  = some out) : Met l yJ_reserve wsJ_reserve rmJ_reserve (jPre D (xT ca) (xC ca ad σ) (xN (va_A (xC ca ad σ) sz)) sz [.ref (ad 1)]) (jSi out) 0 0 (fun _ => False) := by
  refine Met.ofW (cc := cJ_reserve) (maxL := 3) (ret := some .int) (by decide) rfl ?_
  intro p e s m args below meth c s₁ B hml hv
  obtain ⟨rfl, hsz, hP, hK, hD0, hN⟩ := hv
  subst hsz
  have hl := lv_entry [.ref (ad 1)] (n := 3) (Nat.le_of_ble_eq_true rfl)
  rw [lg_entry_eq]
  generalize (lg_sl [.ref (ad 1)] ++ List.replicate (3 - (lg_sl [.ref (ad 1)]).length) Slot.unset).toArray = ls at hl ⊢
  exact bJ_reserve (fun q h => Or.inr h) ⟨B.exec, B.bytes, hml, findClass_of_methodNamed B.named, fun w h => atoms_spec (ws := wsJ_reserve) B.pre w (List.mem_cons_of_mem _ h)⟩ hN B.returns B.notSynchronized out σ  ls hl ⟨hP, hD0.self, va_S.rf, hK⟩ hf

def rmJ_refusesChangeBy : Room := { frames := 2, cells := 0, slots := 0, locals := 43 }
def mJ_refusesChangeBy (σ : JS) (x1 : Int32) : Option (Int32) :=
  jbn (mJ_isCycleOpen σ x1) fun q1 =>
  if q1 = 0 then
  (jbn (mJ_room σ ) fun q3 =>
  jbn (mJ_reserve σ ) fun q5 =>
  if (q5 + (2 : Int32)) ≤ (q3 - (1 : Int32)) then
  (some (0 : Int32))
  else
  (some (1 : Int32)))
  else
  (jbn (mJ_room σ ) fun q7 =>
  jbn (mJ_reserve σ ) fun q9 =>
  if (q9 + (1 : Int32)) ≤ (q7 - (1 : Int32)) then
  (some (0 : Int32))
  else
  (some (1 : Int32)))
set_option maxHeartbeats 4000000 in
set_option maxRecDepth 100000 in
theorem bJ_refusesChangeBy {p : Program} {l : Launch} {e : Env} {s : State} {m : MethodId} {args : Array Value} {below : List Frame} {meth : Method} {c : Code} {D : va_G} {ca : Nat → ClassId} {ad : Nat → Nat} {A : Nat → Prop} (hA : ∀ q, s.heap.size ≤ q → A q) (S : CallFix p m c cJ_refusesChangeBy 3 s args jall RJ) (hN : xN A s) (hr : meth.sig.returnType = some .boolean) (hlk : meth.locks = false) (out : Int32) (σ : JS) (x1 : Int32) (ls : Array Slot) (hl : lv_has ls 3 [(0, .ref (ad 1)), (1, .int x1)]) (hw : jH D (xT ca) (xC ca ad σ) A s.heap s.heap [] s) (hf : mJ_refusesChangeBy σ x1 = some out) : W p l e (headSpec wsJ_refusesChangeBy rmJ_refusesChangeBy).room s m args below meth c s.heap [] 0 0 (MQ below (jSi out) args s 0 0 (fun _ => False)) (F0 m 0 ls []) := by
  have hx := S.1
  have hb := S.2.1
  unfold mJ_refusesChangeBy at hf
  refine lv_aload_n (pc := 0) hx hb dJ_refusesChangeBy_0 rfl (lv_at hl 0 rfl) ?_
  refine lv_iload_n (pc := 1) hx hb dJ_refusesChangeBy_1 rfl (lv_at hl 1 rfl) ?_
  have hg := jbn_e hf; clear hf; obtain ⟨q1, h2, hf⟩ := hg
  refine j_cpi (pc := 2) (v := q1) (va_runV (As := [.int x1]) (rest := []) S (kJ_isCycleOpen l D ca ad _ σ x1 q1 h2) (cwV 1 S.2.2.2.2 (jgV k_374 k_375 k_376 k_2 k_377) rfl rfl rfl (by decide +kernel) ⟨Nat.le_of_ble_eq_true rfl, Nat.le_of_ble_eq_true rfl⟩) (j_preV (As := [.int x1]) hw xN_b (xN_to hN hw hA) rfl xg_1) rfl rfl hl.1 rfl (lv_room (Nat.le_of_ble_eq_true rfl)) dJ_refusesChangeBy_2 ⟨Nat.le_of_ble_eq_true rfl, Nat.le_of_ble_eq_true rfl⟩) ?_
  refine lv_if_eq (pc := 5) (tgt := 12) hx hb dJ_refusesChangeBy_5 (by decide) (fun hc => ?_) (fun hc => ?_)
  · replace hf := jit hf hc
    refine lv_iconst (pc := 12) (v := (2 : Int32)) hx hb dJ_refusesChangeBy_12 (by decide) ?_
    refine lv_istore_n (pc := 13) (lv' := [(2, .int (2 : Int32)), (0, .ref (ad 1)), (1, .int x1)]) hx hb dJ_refusesChangeBy_13 rfl hl (by decide) rfl (fun ls hl => ?_)
    refine lv_aload_n (pc := 14) hx hb dJ_refusesChangeBy_14 rfl (lv_at hl 1 rfl) ?_
    have hg := jbn_e hf; clear hf; obtain ⟨q3, h4, hf⟩ := hg
    refine j_cpi (pc := 15) (v := q3) (va_runV (As := []) (rest := []) S (kJ_room l D ca ad _ σ  q3 h4) (cwV 0 S.2.2.2.2 (jgV k_382 k_384 ks_2 k_2 k_385) rfl rfl rfl (by decide +kernel) ⟨Nat.le_of_ble_eq_true rfl, Nat.le_of_ble_eq_true rfl⟩) (j_preV (As := []) hw xN_b (xN_to hN hw hA) rfl xg_1) rfl rfl hl.1 rfl (lv_room (Nat.le_of_ble_eq_true rfl)) dJ_refusesChangeBy_15 ⟨Nat.le_of_ble_eq_true rfl, Nat.le_of_ble_eq_true rfl⟩) ?_
    refine lv_iconst (pc := 18) (v := (1 : Int32)) hx hb dJ_refusesChangeBy_18 (by decide) ?_
    refine lv_isub (pc := 19) hx hb dJ_refusesChangeBy_19 ?_
    refine lv_aload_n (pc := 20) hx hb dJ_refusesChangeBy_20 rfl (lv_at hl 1 rfl) ?_
    have hg := jbn_e hf; clear hf; obtain ⟨q5, h6, hf⟩ := hg
    refine j_cpi (pc := 21) (v := q5) (va_runV (As := []) (rest := [.int (q3 - (1 : Int32))]) S (kJ_reserve l D ca ad _ σ  q5 h6) (cwV 0 S.2.2.2.2 (jgV k_389 k_391 ks_3 k_2 k_392) rfl rfl rfl (by decide +kernel) ⟨Nat.le_of_ble_eq_true rfl, Nat.le_of_ble_eq_true rfl⟩) (j_preV (As := []) hw xN_b (xN_to hN hw hA) rfl xg_1) rfl rfl hl.1 rfl (lv_room (Nat.le_of_ble_eq_true rfl)) dJ_refusesChangeBy_21 ⟨Nat.le_of_ble_eq_true rfl, Nat.le_of_ble_eq_true rfl⟩) ?_
    refine lv_iload_n (pc := 24) hx hb dJ_refusesChangeBy_24 rfl (lv_at hl 0 rfl) ?_
    refine lv_iadd (pc := 25) hx hb dJ_refusesChangeBy_25 ?_
    refine lv_icmp_ge (pc := 26) (tgt := 33) hx hb dJ_refusesChangeBy_26 (by decide) (fun hc => ?_) (fun hc => ?_)
    · replace hf := jit hf hc
      refine lv_iconst (pc := 33) (v := (0 : Int32)) hx hb dJ_refusesChangeBy_33 (by decide) ?_
      obtain rfl := jsm hf
      exact j_zpr (pc := 34) S hr hlk (Or.inl rfl) dJ_refusesChangeBy_34
    · replace hf := jif hf hc
      refine lv_iconst (pc := 29) (v := (1 : Int32)) hx hb dJ_refusesChangeBy_29 (by decide) ?_
      refine lv_goto (pc := 30) (tgt := 34) hx hb dJ_refusesChangeBy_30 (by decide) ?_
      obtain rfl := jsm hf
      exact j_zpr (pc := 34) S hr hlk (Or.inr rfl) dJ_refusesChangeBy_34
  · replace hf := jif hf hc
    refine lv_iconst (pc := 8) (v := (1 : Int32)) hx hb dJ_refusesChangeBy_8 (by decide) ?_
    refine lv_goto (pc := 9) (tgt := 13) hx hb dJ_refusesChangeBy_9 (by decide) ?_
    refine lv_istore_n (pc := 13) (lv' := [(2, .int (1 : Int32)), (0, .ref (ad 1)), (1, .int x1)]) hx hb dJ_refusesChangeBy_13 rfl hl (by decide) rfl (fun ls hl => ?_)
    refine lv_aload_n (pc := 14) hx hb dJ_refusesChangeBy_14 rfl (lv_at hl 1 rfl) ?_
    have hg := jbn_e hf; clear hf; obtain ⟨q7, h8, hf⟩ := hg
    refine j_cpi (pc := 15) (v := q7) (va_runV (As := []) (rest := []) S (kJ_room l D ca ad _ σ  q7 h8) (cwV 0 S.2.2.2.2 (jgV k_382 k_384 ks_2 k_2 k_385) rfl rfl rfl (by decide +kernel) ⟨Nat.le_of_ble_eq_true rfl, Nat.le_of_ble_eq_true rfl⟩) (j_preV (As := []) hw xN_b (xN_to hN hw hA) rfl xg_1) rfl rfl hl.1 rfl (lv_room (Nat.le_of_ble_eq_true rfl)) dJ_refusesChangeBy_15 ⟨Nat.le_of_ble_eq_true rfl, Nat.le_of_ble_eq_true rfl⟩) ?_
    refine lv_iconst (pc := 18) (v := (1 : Int32)) hx hb dJ_refusesChangeBy_18 (by decide) ?_
    refine lv_isub (pc := 19) hx hb dJ_refusesChangeBy_19 ?_
    refine lv_aload_n (pc := 20) hx hb dJ_refusesChangeBy_20 rfl (lv_at hl 1 rfl) ?_
    have hg := jbn_e hf; clear hf; obtain ⟨q9, h10, hf⟩ := hg
    refine j_cpi (pc := 21) (v := q9) (va_runV (As := []) (rest := [.int (q7 - (1 : Int32))]) S (kJ_reserve l D ca ad _ σ  q9 h10) (cwV 0 S.2.2.2.2 (jgV k_389 k_391 ks_3 k_2 k_392) rfl rfl rfl (by decide +kernel) ⟨Nat.le_of_ble_eq_true rfl, Nat.le_of_ble_eq_true rfl⟩) (j_preV (As := []) hw xN_b (xN_to hN hw hA) rfl xg_1) rfl rfl hl.1 rfl (lv_room (Nat.le_of_ble_eq_true rfl)) dJ_refusesChangeBy_21 ⟨Nat.le_of_ble_eq_true rfl, Nat.le_of_ble_eq_true rfl⟩) ?_
    refine lv_iload_n (pc := 24) hx hb dJ_refusesChangeBy_24 rfl (lv_at hl 0 rfl) ?_
    refine lv_iadd (pc := 25) hx hb dJ_refusesChangeBy_25 ?_
    refine lv_icmp_ge (pc := 26) (tgt := 33) hx hb dJ_refusesChangeBy_26 (by decide) (fun hc => ?_) (fun hc => ?_)
    · replace hf := jit hf hc
      refine lv_iconst (pc := 33) (v := (0 : Int32)) hx hb dJ_refusesChangeBy_33 (by decide) ?_
      obtain rfl := jsm hf
      exact j_zpr (pc := 34) S hr hlk (Or.inl rfl) dJ_refusesChangeBy_34
    · replace hf := jif hf hc
      refine lv_iconst (pc := 29) (v := (1 : Int32)) hx hb dJ_refusesChangeBy_29 (by decide) ?_
      refine lv_goto (pc := 30) (tgt := 34) hx hb dJ_refusesChangeBy_30 (by decide) ?_
      obtain rfl := jsm hf
      exact j_zpr (pc := 34) S hr hlk (Or.inr rfl) dJ_refusesChangeBy_34
set_option maxHeartbeats 4000000 in
set_option maxRecDepth 100000 in
theorem kJ_refusesChangeBy (l : Launch) (D : va_G) (ca : Nat → ClassId) (ad : Nat → Nat) (sz : Nat) (σ : JS) (x1 : Int32) (out : Int32) (hf : mJ_refusesChangeBy σ x1 = some out) : Met l yJ_refusesChangeBy wsJ_refusesChangeBy rmJ_refusesChangeBy (jPre D (xT ca) (xC ca ad σ) (xN (va_A (xC ca ad σ) sz)) sz [.ref (ad 1), .int x1]) (jSi out) 0 0 (fun _ => False) := by
  refine Met.ofW (cc := cJ_refusesChangeBy) (maxL := 3) (ret := some .boolean) (by decide) rfl ?_
  intro p e s m args below meth c s₁ B hml hv
  obtain ⟨rfl, hsz, hP, hK, hD0, hN⟩ := hv
  subst hsz
  have hl := lv_entry [.ref (ad 1), .int x1] (n := 3) (Nat.le_of_ble_eq_true rfl)
  rw [lg_entry_eq]
  generalize (lg_sl [.ref (ad 1), .int x1] ++ List.replicate (3 - (lg_sl [.ref (ad 1), .int x1]).length) Slot.unset).toArray = ls at hl ⊢
  exact bJ_refusesChangeBy (fun q h => Or.inr h) ⟨B.exec, B.bytes, hml, findClass_of_methodNamed B.named, fun w h => atoms_spec (ws := wsJ_refusesChangeBy) B.pre w (List.mem_cons_of_mem _ h)⟩ hN B.returns B.notSynchronized out σ x1 ls hl ⟨hP, hD0.self, va_S.rf, hK⟩ hf

def rmH_fileOf : Room := { frames := 0, cells := 0, slots := 0, locals := 0 }
def mH_fileOf (σ : JS) (x0 : Int32) : Option (Int32) :=
  some (x0 / (8 : Int32))
set_option maxHeartbeats 4000000 in
set_option maxRecDepth 100000 in
theorem bH_fileOf {p : Program} {l : Launch} {e : Env} {s : State} {m : MethodId} {args : Array Value} {below : List Frame} {meth : Method} {c : Code} {D : va_G} {ca : Nat → ClassId} {ad : Nat → Nat} {A : Nat → Prop} (hA : ∀ q, s.heap.size ≤ q → A q) (S : CallFix p m c cH_fileOf 1 s args jall RH) (hN : xN A s) (hr : meth.sig.returnType = some .int) (hlk : meth.locks = false) (out : Int32) (σ : JS) (x0 : Int32) (ls : Array Slot) (hl : lv_has ls 1 [(0, .int x0)]) (hw : jH D (xT ca) (xC ca ad σ) A s.heap s.heap [] s) (hf : mH_fileOf σ x0 = some out) : W p l e (headSpec wsH_fileOf rmH_fileOf).room s m args below meth c s.heap [] 0 0 (MQ below (jSi out) args s 0 0 (fun _ => False)) (F0 m 0 ls []) := by
  have hx := S.1
  have hb := S.2.1
  unfold mH_fileOf at hf
  refine lv_iload_n (pc := 0) hx hb dH_fileOf_0 rfl (lv_at hl 0 rfl) ?_
  refine lv_bipush (pc := 1) (v := (8 : Int32)) hx hb dH_fileOf_1 (by decide) ?_
  refine lv_idiv (pc := 3) hx hb dH_fileOf_3 (by decide) ?_
  obtain rfl := jsm hf
  exact j_ipr (pc := 4) S hr hlk dH_fileOf_4
set_option maxHeartbeats 4000000 in
set_option maxRecDepth 100000 in
theorem kH_fileOf (l : Launch) (D : va_G) (ca : Nat → ClassId) (ad : Nat → Nat) (sz : Nat) (σ : JS) (x0 : Int32) (out : Int32) (hf : mH_fileOf σ x0 = some out) : Met l yH_fileOf wsH_fileOf rmH_fileOf (jPre D (xT ca) (xC ca ad σ) (xN (va_A (xC ca ad σ) sz)) sz [.int x0]) (jSi out) 0 0 (fun _ => False) := by
  refine Met.ofW (cc := cH_fileOf) (maxL := 1) (ret := some .int) (by decide) rfl ?_
  intro p e s m args below meth c s₁ B hml hv
  obtain ⟨rfl, hsz, hP, hK, hD0, hN⟩ := hv
  subst hsz
  have hl := lv_entry [.int x0] (n := 1) (Nat.le_of_ble_eq_true rfl)
  rw [lg_entry_eq]
  generalize (lg_sl [.int x0] ++ List.replicate (1 - (lg_sl [.int x0]).length) Slot.unset).toArray = ls at hl ⊢
  exact bH_fileOf (fun q h => Or.inr h) ⟨B.exec, B.bytes, hml, findClass_of_methodNamed B.named, fun w h => atoms_spec (ws := wsH_fileOf) B.pre w (List.mem_cons_of_mem _ h)⟩ hN B.returns B.notSynchronized out σ x0 ls hl ⟨hP, hD0.self, va_S.rf, hK⟩ hf

