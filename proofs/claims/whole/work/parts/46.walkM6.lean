def rmM_takenBack : Room := { frames := 1, cells := 0, slots := 0, locals := 24 }
def mM_takenBack_L29 (k : Int32 → Int32 → Option (Int32)) (σ : JS) (x1 : Int32) (x2 : Int32) (x4 : Int32) (x5 : Int32) : Nat → Int32 → Int32 → Option (Int32)
  | 0, _, _ => none
  | n + 1, x3, x6 =>
    if x6 < x5 then
    (k x3 x6)
    else
    (if x5 ≤ 0 then
    (k x3 x6)
    else
    (jrd σ 5 121 x6 fun v3 =>
    if v3 = x4 then
    (jrd σ 6 121 x6 fun v6 =>
    if v6 = x1 then
    (jrd σ 7 121 x6 fun v9 =>
    if v9 = x2 then
    (if (1 : Int32) = 0 then
    (mM_takenBack_L29 k σ x1 x2 x4 x5 n x3 (x6 + (-1)))
    else
    (if x3 = 0 then
    (mM_takenBack_L29 k σ x1 x2 x4 x5 n x6 (x6 + (-1)))
    else
    (if x3 ≤ x6 then
    (mM_takenBack_L29 k σ x1 x2 x4 x5 n x3 (x6 + (-1)))
    else
    (mM_takenBack_L29 k σ x1 x2 x4 x5 n x6 (x6 + (-1))))))
    else
    (if (0 : Int32) = 0 then
    (mM_takenBack_L29 k σ x1 x2 x4 x5 n x3 (x6 + (-1)))
    else
    (if x3 = 0 then
    (mM_takenBack_L29 k σ x1 x2 x4 x5 n x6 (x6 + (-1)))
    else
    (if x3 ≤ x6 then
    (mM_takenBack_L29 k σ x1 x2 x4 x5 n x3 (x6 + (-1)))
    else
    (mM_takenBack_L29 k σ x1 x2 x4 x5 n x6 (x6 + (-1)))))))
    else
    (if (0 : Int32) = 0 then
    (mM_takenBack_L29 k σ x1 x2 x4 x5 n x3 (x6 + (-1)))
    else
    (if x3 = 0 then
    (mM_takenBack_L29 k σ x1 x2 x4 x5 n x6 (x6 + (-1)))
    else
    (if x3 ≤ x6 then
    (mM_takenBack_L29 k σ x1 x2 x4 x5 n x3 (x6 + (-1)))
    else
    (mM_takenBack_L29 k σ x1 x2 x4 x5 n x6 (x6 + (-1)))))))
    else
    (if (0 : Int32) = 0 then
    (mM_takenBack_L29 k σ x1 x2 x4 x5 n x3 (x6 + (-1)))
    else
    (if x3 = 0 then
    (mM_takenBack_L29 k σ x1 x2 x4 x5 n x6 (x6 + (-1)))
    else
    (if x3 ≤ x6 then
    (mM_takenBack_L29 k σ x1 x2 x4 x5 n x3 (x6 + (-1)))
    else
    (mM_takenBack_L29 k σ x1 x2 x4 x5 n x6 (x6 + (-1))))))))
def mM_takenBack_L5 (σ : JS) (x1 : Int32) (x2 : Int32) : Nat → Int32 → Int32 → Option (Int32)
  | 0, _, _ => none
  | n + 1, x3, x4 =>
    if (4 : Int32) ≤ x4 then
    (some x3)
    else
    (jbn (mM_cycleAt σ x4 (σ 100 8)) fun q1 =>
    mM_takenBack_L29 (fun z12 z13 =>
    mM_takenBack_L5 σ x1 x2 n z12 (x4 + 1)) σ x1 x2 x4 q1 999 x3 (σ 100 8))
def mM_takenBack (σ : JS) (x1 : Int32) (x2 : Int32) : Option (Int32) :=
  mM_takenBack_L5 σ x1 x2 999 (0 : Int32) (0 : Int32)
set_option maxHeartbeats 4000000 in
set_option maxRecDepth 100000 in
theorem wmM_takenBack_L29 {p : Program} {l : Launch} {e : Env} {s : State} {m : MethodId} {args : Array Value} {below : List Frame} {meth : Method} {c : Code} {D : va_G} {ca : Nat → ClassId} {ad : Nat → Nat} {A : Nat → Prop} (hA : ∀ q, s.heap.size ≤ q → A q) (S : CallFix p m c cM_takenBack 8 s args jall RM) (hN : mN A s) (hr : meth.sig.returnType = some .int) (hlk : meth.locks = false) (out : Int32) (k : Int32 → Int32 → Option (Int32)) (σ : JS) (x1 : Int32) (x2 : Int32) (x4 : Int32) (x5 : Int32) (hk : ∀ (x3 : Int32) (x6 : Int32) (ls : Array Slot) , lv_has ls 8 [(0, .ref (ad 0)), (1, .int x1), (2, .int x2), (3, .int x3), (4, .int x4), (5, .int x5), (6, .int x6)] → jH D (mT ca) (mC ca ad σ) A s.heap s.heap [] s → k x3 x6 = some out → W p l e (headSpec wsM_takenBack rmM_takenBack).room s m args below meth c s.heap [] 0 0 (MQ below (jSi out) args s 0 0 (fun _ => False)) (F0 m 110 ls [])) : ∀ (n : Nat) (x3 : Int32) (x6 : Int32) (ls : Array Slot) , lv_has ls 8 [(0, .ref (ad 0)), (1, .int x1), (2, .int x2), (3, .int x3), (4, .int x4), (5, .int x5), (6, .int x6)] → jH D (mT ca) (mC ca ad σ) A s.heap s.heap [] s → mM_takenBack_L29 k σ x1 x2 x4 x5 n x3 x6 = some out → W p l e (headSpec wsM_takenBack rmM_takenBack).room s m args below meth c s.heap [] 0 0 (MQ below (jSi out) args s 0 0 (fun _ => False)) (F0 m 29 ls []) := by
  have hx := S.1
  have hb := S.2.1
  intro n
  induction n with
  | zero => intro x3 x6 ls hl hw hf; cases hf
  | succ n ih =>
    intro x3 x6 ls hl hw hf
    rw [mM_takenBack_L29] at hf
    refine lv_iload (pc := 29) hx hb dM_takenBack_29 (lv_at hl 6 rfl) ?_
    refine lv_iload (pc := 31) hx hb dM_takenBack_31 (lv_at hl 5 rfl) ?_
    refine lv_icmp_lt (pc := 33) (tgt := 110) hx hb dM_takenBack_33 (by decide) (fun hc => ?_) (fun hc => ?_)
    · replace hf := jit hf hc
      exact hk x3 x6 _ (lv_sub hl [0, 1, 2, 3, 4, 5, 6] rfl) hw hf
    · replace hf := jif hf hc
      refine lv_iload (pc := 36) hx hb dM_takenBack_36 (lv_at hl 5 rfl) ?_
      refine lv_if_le (pc := 38) (tgt := 110) hx hb dM_takenBack_38 (by decide) (fun hc => ?_) (fun hc => ?_)
      · replace hf := jit hf hc
        exact hk x3 x6 _ (lv_sub hl [0, 1, 2, 3, 4, 5, 6] rfl) hw hf
      · replace hf := jif hf hc
        refine lv_aload_n (pc := 41) hx hb dM_takenBack_41 rfl (lv_at hl 0 rfl) ?_
        refine j_get (pc := 42) (v := .ref (ad 5)) S hw inM 0 6 10 mg_0 rfl (by decide) k_606 rfl dM_takenBack_42 ?_
        refine lv_iload (pc := 45) hx hb dM_takenBack_45 (lv_at hl 6 rfl) ?_
        have hg := jrd_e hf; clear hf; obtain ⟨h4, v3, e5, hf⟩ := hg
        refine j_iald (pc := 47) S hw 5 4 mg_5 mt_5 h4 e5 dM_takenBack_47 ?_
        refine lv_iload (pc := 48) hx hb dM_takenBack_48 (lv_at hl 4 rfl) ?_
        refine lv_icmp_ne (pc := 50) (tgt := 79) hx hb dM_takenBack_50 (by decide) (fun hc => ?_) (fun hc => ?_)
        · replace hf := jif hf hc
          refine lv_iconst (pc := 79) (v := (0 : Int32)) hx hb dM_takenBack_79 (by decide) ?_
          refine lv_istore (pc := 80) (lv' := [(7, .int (0 : Int32)), (0, .ref (ad 0)), (1, .int x1), (2, .int x2), (3, .int x3), (4, .int x4), (5, .int x5), (6, .int x6)]) hx hb dM_takenBack_80 hl (by decide) rfl (fun ls hl => ?_)
          refine lv_iload (pc := 82) hx hb dM_takenBack_82 (lv_at hl 0 rfl) ?_
          refine lv_if_eq (pc := 84) (tgt := 102) hx hb dM_takenBack_84 (by decide) (fun hc => ?_) (fun hc => ?_)
          · replace hf := jit hf hc
            refine lv_iload_n (pc := 102) hx hb dM_takenBack_102 rfl (lv_at hl 4 rfl) ?_
            refine lv_istore_n (pc := 103) (lv' := [(3, .int x3), (7, .int (0 : Int32)), (0, .ref (ad 0)), (1, .int x1), (2, .int x2), (4, .int x4), (5, .int x5), (6, .int x6)]) hx hb dM_takenBack_103 rfl hl (by decide) rfl (fun ls hl => ?_)
            refine lv_iinc (pc := 104) (v := (x6 + (-1))) (k := 7) (lv' := [(6, .int (x6 + (-1))), (3, .int x3), (7, .int (0 : Int32)), (0, .ref (ad 0)), (1, .int x1), (2, .int x2), (4, .int x4), (5, .int x5)]) hx hb dM_takenBack_104 hl rfl (j_inc _ (by decide)) (by decide) rfl (fun ls hl => ?_)
            refine lv_goto (pc := 107) (tgt := 29) hx hb dM_takenBack_107 (by decide) ?_
            exact ih x3 (x6 + (-1)) _ (lv_sub hl [3, 4, 5, 1, 6, 7, 0] rfl) hw hf
          · replace hf := jif hf hc
            refine lv_iload_n (pc := 87) hx hb dM_takenBack_87 rfl (lv_at hl 4 rfl) ?_
            refine lv_if_eq (pc := 88) (tgt := 97) hx hb dM_takenBack_88 (by decide) (fun hc => ?_) (fun hc => ?_)
            · replace hf := jit hf hc
              refine lv_iload (pc := 97) hx hb dM_takenBack_97 (lv_at hl 7 rfl) ?_
              refine lv_goto (pc := 99) (tgt := 103) hx hb dM_takenBack_99 (by decide) ?_
              refine lv_istore_n (pc := 103) (lv' := [(3, .int x6), (7, .int (0 : Int32)), (0, .ref (ad 0)), (1, .int x1), (2, .int x2), (4, .int x4), (5, .int x5), (6, .int x6)]) hx hb dM_takenBack_103 rfl hl (by decide) rfl (fun ls hl => ?_)
              refine lv_iinc (pc := 104) (v := (x6 + (-1))) (k := 7) (lv' := [(6, .int (x6 + (-1))), (3, .int x6), (7, .int (0 : Int32)), (0, .ref (ad 0)), (1, .int x1), (2, .int x2), (4, .int x4), (5, .int x5)]) hx hb dM_takenBack_104 hl rfl (j_inc _ (by decide)) (by decide) rfl (fun ls hl => ?_)
              refine lv_goto (pc := 107) (tgt := 29) hx hb dM_takenBack_107 (by decide) ?_
              exact ih x6 (x6 + (-1)) _ (lv_sub hl [3, 4, 5, 1, 6, 7, 0] rfl) hw hf
            · replace hf := jif hf hc
              refine lv_iload (pc := 91) hx hb dM_takenBack_91 (lv_at hl 7 rfl) ?_
              refine lv_iload_n (pc := 93) hx hb dM_takenBack_93 rfl (lv_at hl 4 rfl) ?_
              refine lv_icmp_ge (pc := 94) (tgt := 102) hx hb dM_takenBack_94 (by decide) (fun hc => ?_) (fun hc => ?_)
              · replace hf := jit hf hc
                refine lv_iload_n (pc := 102) hx hb dM_takenBack_102 rfl (lv_at hl 4 rfl) ?_
                refine lv_istore_n (pc := 103) (lv' := [(3, .int x3), (7, .int (0 : Int32)), (0, .ref (ad 0)), (1, .int x1), (2, .int x2), (4, .int x4), (5, .int x5), (6, .int x6)]) hx hb dM_takenBack_103 rfl hl (by decide) rfl (fun ls hl => ?_)
                refine lv_iinc (pc := 104) (v := (x6 + (-1))) (k := 7) (lv' := [(6, .int (x6 + (-1))), (3, .int x3), (7, .int (0 : Int32)), (0, .ref (ad 0)), (1, .int x1), (2, .int x2), (4, .int x4), (5, .int x5)]) hx hb dM_takenBack_104 hl rfl (j_inc _ (by decide)) (by decide) rfl (fun ls hl => ?_)
                refine lv_goto (pc := 107) (tgt := 29) hx hb dM_takenBack_107 (by decide) ?_
                exact ih x3 (x6 + (-1)) _ (lv_sub hl [3, 4, 5, 1, 6, 7, 0] rfl) hw hf
              · replace hf := jif hf hc
                refine lv_iload (pc := 97) hx hb dM_takenBack_97 (lv_at hl 7 rfl) ?_
                refine lv_goto (pc := 99) (tgt := 103) hx hb dM_takenBack_99 (by decide) ?_
                refine lv_istore_n (pc := 103) (lv' := [(3, .int x6), (7, .int (0 : Int32)), (0, .ref (ad 0)), (1, .int x1), (2, .int x2), (4, .int x4), (5, .int x5), (6, .int x6)]) hx hb dM_takenBack_103 rfl hl (by decide) rfl (fun ls hl => ?_)
                refine lv_iinc (pc := 104) (v := (x6 + (-1))) (k := 7) (lv' := [(6, .int (x6 + (-1))), (3, .int x6), (7, .int (0 : Int32)), (0, .ref (ad 0)), (1, .int x1), (2, .int x2), (4, .int x4), (5, .int x5)]) hx hb dM_takenBack_104 hl rfl (j_inc _ (by decide)) (by decide) rfl (fun ls hl => ?_)
                refine lv_goto (pc := 107) (tgt := 29) hx hb dM_takenBack_107 (by decide) ?_
                exact ih x6 (x6 + (-1)) _ (lv_sub hl [3, 4, 5, 1, 6, 7, 0] rfl) hw hf
        · replace hf := jit hf hc
          refine lv_aload_n (pc := 53) hx hb dM_takenBack_53 rfl (lv_at hl 0 rfl) ?_
          refine j_get (pc := 54) (v := .ref (ad 6)) S hw inM 0 6 11 mg_0 rfl (by decide) k_607 rfl dM_takenBack_54 ?_
          refine lv_iload (pc := 57) hx hb dM_takenBack_57 (lv_at hl 6 rfl) ?_
          have hg := jrd_e hf; clear hf; obtain ⟨h7, v6, e8, hf⟩ := hg
          refine j_iald (pc := 59) S hw 6 5 mg_6 mt_6 h7 e8 dM_takenBack_59 ?_
          refine lv_iload_n (pc := 60) hx hb dM_takenBack_60 rfl (lv_at hl 1 rfl) ?_
          refine lv_icmp_ne (pc := 61) (tgt := 79) hx hb dM_takenBack_61 (by decide) (fun hc => ?_) (fun hc => ?_)
          · replace hf := jif hf hc
            refine lv_iconst (pc := 79) (v := (0 : Int32)) hx hb dM_takenBack_79 (by decide) ?_
            refine lv_istore (pc := 80) (lv' := [(7, .int (0 : Int32)), (0, .ref (ad 0)), (1, .int x1), (2, .int x2), (3, .int x3), (4, .int x4), (5, .int x5), (6, .int x6)]) hx hb dM_takenBack_80 hl (by decide) rfl (fun ls hl => ?_)
            refine lv_iload (pc := 82) hx hb dM_takenBack_82 (lv_at hl 0 rfl) ?_
            refine lv_if_eq (pc := 84) (tgt := 102) hx hb dM_takenBack_84 (by decide) (fun hc => ?_) (fun hc => ?_)
            · replace hf := jit hf hc
              refine lv_iload_n (pc := 102) hx hb dM_takenBack_102 rfl (lv_at hl 4 rfl) ?_
              refine lv_istore_n (pc := 103) (lv' := [(3, .int x3), (7, .int (0 : Int32)), (0, .ref (ad 0)), (1, .int x1), (2, .int x2), (4, .int x4), (5, .int x5), (6, .int x6)]) hx hb dM_takenBack_103 rfl hl (by decide) rfl (fun ls hl => ?_)
              refine lv_iinc (pc := 104) (v := (x6 + (-1))) (k := 7) (lv' := [(6, .int (x6 + (-1))), (3, .int x3), (7, .int (0 : Int32)), (0, .ref (ad 0)), (1, .int x1), (2, .int x2), (4, .int x4), (5, .int x5)]) hx hb dM_takenBack_104 hl rfl (j_inc _ (by decide)) (by decide) rfl (fun ls hl => ?_)
              refine lv_goto (pc := 107) (tgt := 29) hx hb dM_takenBack_107 (by decide) ?_
              exact ih x3 (x6 + (-1)) _ (lv_sub hl [3, 4, 5, 1, 6, 7, 0] rfl) hw hf
            · replace hf := jif hf hc
              refine lv_iload_n (pc := 87) hx hb dM_takenBack_87 rfl (lv_at hl 4 rfl) ?_
              refine lv_if_eq (pc := 88) (tgt := 97) hx hb dM_takenBack_88 (by decide) (fun hc => ?_) (fun hc => ?_)
              · replace hf := jit hf hc
                refine lv_iload (pc := 97) hx hb dM_takenBack_97 (lv_at hl 7 rfl) ?_
                refine lv_goto (pc := 99) (tgt := 103) hx hb dM_takenBack_99 (by decide) ?_
                refine lv_istore_n (pc := 103) (lv' := [(3, .int x6), (7, .int (0 : Int32)), (0, .ref (ad 0)), (1, .int x1), (2, .int x2), (4, .int x4), (5, .int x5), (6, .int x6)]) hx hb dM_takenBack_103 rfl hl (by decide) rfl (fun ls hl => ?_)
                refine lv_iinc (pc := 104) (v := (x6 + (-1))) (k := 7) (lv' := [(6, .int (x6 + (-1))), (3, .int x6), (7, .int (0 : Int32)), (0, .ref (ad 0)), (1, .int x1), (2, .int x2), (4, .int x4), (5, .int x5)]) hx hb dM_takenBack_104 hl rfl (j_inc _ (by decide)) (by decide) rfl (fun ls hl => ?_)
                refine lv_goto (pc := 107) (tgt := 29) hx hb dM_takenBack_107 (by decide) ?_
                exact ih x6 (x6 + (-1)) _ (lv_sub hl [3, 4, 5, 1, 6, 7, 0] rfl) hw hf
              · replace hf := jif hf hc
                refine lv_iload (pc := 91) hx hb dM_takenBack_91 (lv_at hl 7 rfl) ?_
                refine lv_iload_n (pc := 93) hx hb dM_takenBack_93 rfl (lv_at hl 4 rfl) ?_
                refine lv_icmp_ge (pc := 94) (tgt := 102) hx hb dM_takenBack_94 (by decide) (fun hc => ?_) (fun hc => ?_)
                · replace hf := jit hf hc
                  refine lv_iload_n (pc := 102) hx hb dM_takenBack_102 rfl (lv_at hl 4 rfl) ?_
                  refine lv_istore_n (pc := 103) (lv' := [(3, .int x3), (7, .int (0 : Int32)), (0, .ref (ad 0)), (1, .int x1), (2, .int x2), (4, .int x4), (5, .int x5), (6, .int x6)]) hx hb dM_takenBack_103 rfl hl (by decide) rfl (fun ls hl => ?_)
                  refine lv_iinc (pc := 104) (v := (x6 + (-1))) (k := 7) (lv' := [(6, .int (x6 + (-1))), (3, .int x3), (7, .int (0 : Int32)), (0, .ref (ad 0)), (1, .int x1), (2, .int x2), (4, .int x4), (5, .int x5)]) hx hb dM_takenBack_104 hl rfl (j_inc _ (by decide)) (by decide) rfl (fun ls hl => ?_)
                  refine lv_goto (pc := 107) (tgt := 29) hx hb dM_takenBack_107 (by decide) ?_
                  exact ih x3 (x6 + (-1)) _ (lv_sub hl [3, 4, 5, 1, 6, 7, 0] rfl) hw hf
                · replace hf := jif hf hc
                  refine lv_iload (pc := 97) hx hb dM_takenBack_97 (lv_at hl 7 rfl) ?_
                  refine lv_goto (pc := 99) (tgt := 103) hx hb dM_takenBack_99 (by decide) ?_
                  refine lv_istore_n (pc := 103) (lv' := [(3, .int x6), (7, .int (0 : Int32)), (0, .ref (ad 0)), (1, .int x1), (2, .int x2), (4, .int x4), (5, .int x5), (6, .int x6)]) hx hb dM_takenBack_103 rfl hl (by decide) rfl (fun ls hl => ?_)
                  refine lv_iinc (pc := 104) (v := (x6 + (-1))) (k := 7) (lv' := [(6, .int (x6 + (-1))), (3, .int x6), (7, .int (0 : Int32)), (0, .ref (ad 0)), (1, .int x1), (2, .int x2), (4, .int x4), (5, .int x5)]) hx hb dM_takenBack_104 hl rfl (j_inc _ (by decide)) (by decide) rfl (fun ls hl => ?_)
                  refine lv_goto (pc := 107) (tgt := 29) hx hb dM_takenBack_107 (by decide) ?_
                  exact ih x6 (x6 + (-1)) _ (lv_sub hl [3, 4, 5, 1, 6, 7, 0] rfl) hw hf
          · replace hf := jit hf hc
            refine lv_aload_n (pc := 64) hx hb dM_takenBack_64 rfl (lv_at hl 0 rfl) ?_
            refine j_get (pc := 65) (v := .ref (ad 7)) S hw inM 0 6 12 mg_0 rfl (by decide) k_608 rfl dM_takenBack_65 ?_
            refine lv_iload (pc := 68) hx hb dM_takenBack_68 (lv_at hl 6 rfl) ?_
            have hg := jrd_e hf; clear hf; obtain ⟨h10, v9, e11, hf⟩ := hg
            refine j_iald (pc := 70) S hw 7 6 mg_7 mt_7 h10 e11 dM_takenBack_70 ?_
            refine lv_iload_n (pc := 71) hx hb dM_takenBack_71 rfl (lv_at hl 2 rfl) ?_
            refine lv_icmp_ne (pc := 72) (tgt := 79) hx hb dM_takenBack_72 (by decide) (fun hc => ?_) (fun hc => ?_)
            · replace hf := jif hf hc
              refine lv_iconst (pc := 79) (v := (0 : Int32)) hx hb dM_takenBack_79 (by decide) ?_
              refine lv_istore (pc := 80) (lv' := [(7, .int (0 : Int32)), (0, .ref (ad 0)), (1, .int x1), (2, .int x2), (3, .int x3), (4, .int x4), (5, .int x5), (6, .int x6)]) hx hb dM_takenBack_80 hl (by decide) rfl (fun ls hl => ?_)
              refine lv_iload (pc := 82) hx hb dM_takenBack_82 (lv_at hl 0 rfl) ?_
              refine lv_if_eq (pc := 84) (tgt := 102) hx hb dM_takenBack_84 (by decide) (fun hc => ?_) (fun hc => ?_)
              · replace hf := jit hf hc
                refine lv_iload_n (pc := 102) hx hb dM_takenBack_102 rfl (lv_at hl 4 rfl) ?_
                refine lv_istore_n (pc := 103) (lv' := [(3, .int x3), (7, .int (0 : Int32)), (0, .ref (ad 0)), (1, .int x1), (2, .int x2), (4, .int x4), (5, .int x5), (6, .int x6)]) hx hb dM_takenBack_103 rfl hl (by decide) rfl (fun ls hl => ?_)
                refine lv_iinc (pc := 104) (v := (x6 + (-1))) (k := 7) (lv' := [(6, .int (x6 + (-1))), (3, .int x3), (7, .int (0 : Int32)), (0, .ref (ad 0)), (1, .int x1), (2, .int x2), (4, .int x4), (5, .int x5)]) hx hb dM_takenBack_104 hl rfl (j_inc _ (by decide)) (by decide) rfl (fun ls hl => ?_)
                refine lv_goto (pc := 107) (tgt := 29) hx hb dM_takenBack_107 (by decide) ?_
                exact ih x3 (x6 + (-1)) _ (lv_sub hl [3, 4, 5, 1, 6, 7, 0] rfl) hw hf
              · replace hf := jif hf hc
                refine lv_iload_n (pc := 87) hx hb dM_takenBack_87 rfl (lv_at hl 4 rfl) ?_
                refine lv_if_eq (pc := 88) (tgt := 97) hx hb dM_takenBack_88 (by decide) (fun hc => ?_) (fun hc => ?_)
                · replace hf := jit hf hc
                  refine lv_iload (pc := 97) hx hb dM_takenBack_97 (lv_at hl 7 rfl) ?_
                  refine lv_goto (pc := 99) (tgt := 103) hx hb dM_takenBack_99 (by decide) ?_
                  refine lv_istore_n (pc := 103) (lv' := [(3, .int x6), (7, .int (0 : Int32)), (0, .ref (ad 0)), (1, .int x1), (2, .int x2), (4, .int x4), (5, .int x5), (6, .int x6)]) hx hb dM_takenBack_103 rfl hl (by decide) rfl (fun ls hl => ?_)
                  refine lv_iinc (pc := 104) (v := (x6 + (-1))) (k := 7) (lv' := [(6, .int (x6 + (-1))), (3, .int x6), (7, .int (0 : Int32)), (0, .ref (ad 0)), (1, .int x1), (2, .int x2), (4, .int x4), (5, .int x5)]) hx hb dM_takenBack_104 hl rfl (j_inc _ (by decide)) (by decide) rfl (fun ls hl => ?_)
                  refine lv_goto (pc := 107) (tgt := 29) hx hb dM_takenBack_107 (by decide) ?_
                  exact ih x6 (x6 + (-1)) _ (lv_sub hl [3, 4, 5, 1, 6, 7, 0] rfl) hw hf
                · replace hf := jif hf hc
                  refine lv_iload (pc := 91) hx hb dM_takenBack_91 (lv_at hl 7 rfl) ?_
                  refine lv_iload_n (pc := 93) hx hb dM_takenBack_93 rfl (lv_at hl 4 rfl) ?_
                  refine lv_icmp_ge (pc := 94) (tgt := 102) hx hb dM_takenBack_94 (by decide) (fun hc => ?_) (fun hc => ?_)
                  · replace hf := jit hf hc
                    refine lv_iload_n (pc := 102) hx hb dM_takenBack_102 rfl (lv_at hl 4 rfl) ?_
                    refine lv_istore_n (pc := 103) (lv' := [(3, .int x3), (7, .int (0 : Int32)), (0, .ref (ad 0)), (1, .int x1), (2, .int x2), (4, .int x4), (5, .int x5), (6, .int x6)]) hx hb dM_takenBack_103 rfl hl (by decide) rfl (fun ls hl => ?_)
                    refine lv_iinc (pc := 104) (v := (x6 + (-1))) (k := 7) (lv' := [(6, .int (x6 + (-1))), (3, .int x3), (7, .int (0 : Int32)), (0, .ref (ad 0)), (1, .int x1), (2, .int x2), (4, .int x4), (5, .int x5)]) hx hb dM_takenBack_104 hl rfl (j_inc _ (by decide)) (by decide) rfl (fun ls hl => ?_)
                    refine lv_goto (pc := 107) (tgt := 29) hx hb dM_takenBack_107 (by decide) ?_
                    exact ih x3 (x6 + (-1)) _ (lv_sub hl [3, 4, 5, 1, 6, 7, 0] rfl) hw hf
                  · replace hf := jif hf hc
                    refine lv_iload (pc := 97) hx hb dM_takenBack_97 (lv_at hl 7 rfl) ?_
                    refine lv_goto (pc := 99) (tgt := 103) hx hb dM_takenBack_99 (by decide) ?_
                    refine lv_istore_n (pc := 103) (lv' := [(3, .int x6), (7, .int (0 : Int32)), (0, .ref (ad 0)), (1, .int x1), (2, .int x2), (4, .int x4), (5, .int x5), (6, .int x6)]) hx hb dM_takenBack_103 rfl hl (by decide) rfl (fun ls hl => ?_)
                    refine lv_iinc (pc := 104) (v := (x6 + (-1))) (k := 7) (lv' := [(6, .int (x6 + (-1))), (3, .int x6), (7, .int (0 : Int32)), (0, .ref (ad 0)), (1, .int x1), (2, .int x2), (4, .int x4), (5, .int x5)]) hx hb dM_takenBack_104 hl rfl (j_inc _ (by decide)) (by decide) rfl (fun ls hl => ?_)
                    refine lv_goto (pc := 107) (tgt := 29) hx hb dM_takenBack_107 (by decide) ?_
                    exact ih x6 (x6 + (-1)) _ (lv_sub hl [3, 4, 5, 1, 6, 7, 0] rfl) hw hf
            · replace hf := jit hf hc
              refine lv_iconst (pc := 75) (v := (1 : Int32)) hx hb dM_takenBack_75 (by decide) ?_
              refine lv_goto (pc := 76) (tgt := 80) hx hb dM_takenBack_76 (by decide) ?_
              refine lv_istore (pc := 80) (lv' := [(7, .int (1 : Int32)), (0, .ref (ad 0)), (1, .int x1), (2, .int x2), (3, .int x3), (4, .int x4), (5, .int x5), (6, .int x6)]) hx hb dM_takenBack_80 hl (by decide) rfl (fun ls hl => ?_)
              refine lv_iload (pc := 82) hx hb dM_takenBack_82 (lv_at hl 0 rfl) ?_
              refine lv_if_eq (pc := 84) (tgt := 102) hx hb dM_takenBack_84 (by decide) (fun hc => ?_) (fun hc => ?_)
              · replace hf := jit hf hc
                refine lv_iload_n (pc := 102) hx hb dM_takenBack_102 rfl (lv_at hl 4 rfl) ?_
                refine lv_istore_n (pc := 103) (lv' := [(3, .int x3), (7, .int (1 : Int32)), (0, .ref (ad 0)), (1, .int x1), (2, .int x2), (4, .int x4), (5, .int x5), (6, .int x6)]) hx hb dM_takenBack_103 rfl hl (by decide) rfl (fun ls hl => ?_)
                refine lv_iinc (pc := 104) (v := (x6 + (-1))) (k := 7) (lv' := [(6, .int (x6 + (-1))), (3, .int x3), (7, .int (1 : Int32)), (0, .ref (ad 0)), (1, .int x1), (2, .int x2), (4, .int x4), (5, .int x5)]) hx hb dM_takenBack_104 hl rfl (j_inc _ (by decide)) (by decide) rfl (fun ls hl => ?_)
                refine lv_goto (pc := 107) (tgt := 29) hx hb dM_takenBack_107 (by decide) ?_
                exact ih x3 (x6 + (-1)) _ (lv_sub hl [3, 4, 5, 1, 6, 7, 0] rfl) hw hf
              · replace hf := jif hf hc
                refine lv_iload_n (pc := 87) hx hb dM_takenBack_87 rfl (lv_at hl 4 rfl) ?_
                refine lv_if_eq (pc := 88) (tgt := 97) hx hb dM_takenBack_88 (by decide) (fun hc => ?_) (fun hc => ?_)
                · replace hf := jit hf hc
                  refine lv_iload (pc := 97) hx hb dM_takenBack_97 (lv_at hl 7 rfl) ?_
                  refine lv_goto (pc := 99) (tgt := 103) hx hb dM_takenBack_99 (by decide) ?_
                  refine lv_istore_n (pc := 103) (lv' := [(3, .int x6), (7, .int (1 : Int32)), (0, .ref (ad 0)), (1, .int x1), (2, .int x2), (4, .int x4), (5, .int x5), (6, .int x6)]) hx hb dM_takenBack_103 rfl hl (by decide) rfl (fun ls hl => ?_)
                  refine lv_iinc (pc := 104) (v := (x6 + (-1))) (k := 7) (lv' := [(6, .int (x6 + (-1))), (3, .int x6), (7, .int (1 : Int32)), (0, .ref (ad 0)), (1, .int x1), (2, .int x2), (4, .int x4), (5, .int x5)]) hx hb dM_takenBack_104 hl rfl (j_inc _ (by decide)) (by decide) rfl (fun ls hl => ?_)
                  refine lv_goto (pc := 107) (tgt := 29) hx hb dM_takenBack_107 (by decide) ?_
                  exact ih x6 (x6 + (-1)) _ (lv_sub hl [3, 4, 5, 1, 6, 7, 0] rfl) hw hf
                · replace hf := jif hf hc
                  refine lv_iload (pc := 91) hx hb dM_takenBack_91 (lv_at hl 7 rfl) ?_
                  refine lv_iload_n (pc := 93) hx hb dM_takenBack_93 rfl (lv_at hl 4 rfl) ?_
                  refine lv_icmp_ge (pc := 94) (tgt := 102) hx hb dM_takenBack_94 (by decide) (fun hc => ?_) (fun hc => ?_)
                  · replace hf := jit hf hc
                    refine lv_iload_n (pc := 102) hx hb dM_takenBack_102 rfl (lv_at hl 4 rfl) ?_
                    refine lv_istore_n (pc := 103) (lv' := [(3, .int x3), (7, .int (1 : Int32)), (0, .ref (ad 0)), (1, .int x1), (2, .int x2), (4, .int x4), (5, .int x5), (6, .int x6)]) hx hb dM_takenBack_103 rfl hl (by decide) rfl (fun ls hl => ?_)
                    refine lv_iinc (pc := 104) (v := (x6 + (-1))) (k := 7) (lv' := [(6, .int (x6 + (-1))), (3, .int x3), (7, .int (1 : Int32)), (0, .ref (ad 0)), (1, .int x1), (2, .int x2), (4, .int x4), (5, .int x5)]) hx hb dM_takenBack_104 hl rfl (j_inc _ (by decide)) (by decide) rfl (fun ls hl => ?_)
                    refine lv_goto (pc := 107) (tgt := 29) hx hb dM_takenBack_107 (by decide) ?_
                    exact ih x3 (x6 + (-1)) _ (lv_sub hl [3, 4, 5, 1, 6, 7, 0] rfl) hw hf
                  · replace hf := jif hf hc
                    refine lv_iload (pc := 97) hx hb dM_takenBack_97 (lv_at hl 7 rfl) ?_
                    refine lv_goto (pc := 99) (tgt := 103) hx hb dM_takenBack_99 (by decide) ?_
                    refine lv_istore_n (pc := 103) (lv' := [(3, .int x6), (7, .int (1 : Int32)), (0, .ref (ad 0)), (1, .int x1), (2, .int x2), (4, .int x4), (5, .int x5), (6, .int x6)]) hx hb dM_takenBack_103 rfl hl (by decide) rfl (fun ls hl => ?_)
                    refine lv_iinc (pc := 104) (v := (x6 + (-1))) (k := 7) (lv' := [(6, .int (x6 + (-1))), (3, .int x6), (7, .int (1 : Int32)), (0, .ref (ad 0)), (1, .int x1), (2, .int x2), (4, .int x4), (5, .int x5)]) hx hb dM_takenBack_104 hl rfl (j_inc _ (by decide)) (by decide) rfl (fun ls hl => ?_)
                    refine lv_goto (pc := 107) (tgt := 29) hx hb dM_takenBack_107 (by decide) ?_
                    exact ih x6 (x6 + (-1)) _ (lv_sub hl [3, 4, 5, 1, 6, 7, 0] rfl) hw hf
set_option maxHeartbeats 4000000 in
set_option maxRecDepth 100000 in
theorem wmM_takenBack_L5 {p : Program} {l : Launch} {e : Env} {s : State} {m : MethodId} {args : Array Value} {below : List Frame} {meth : Method} {c : Code} {D : va_G} {ca : Nat → ClassId} {ad : Nat → Nat} {A : Nat → Prop} (hA : ∀ q, s.heap.size ≤ q → A q) (S : CallFix p m c cM_takenBack 8 s args jall RM) (hN : mN A s) (hr : meth.sig.returnType = some .int) (hlk : meth.locks = false) (out : Int32) (σ : JS) (x1 : Int32) (x2 : Int32) : ∀ (n : Nat) (x3 : Int32) (x4 : Int32) (ls : Array Slot) , lv_has ls 8 [(0, .ref (ad 0)), (1, .int x1), (2, .int x2), (3, .int x3), (4, .int x4)] → jH D (mT ca) (mC ca ad σ) A s.heap s.heap [] s → mM_takenBack_L5 σ x1 x2 n x3 x4 = some out → W p l e (headSpec wsM_takenBack rmM_takenBack).room s m args below meth c s.heap [] 0 0 (MQ below (jSi out) args s 0 0 (fun _ => False)) (F0 m 5 ls []) := by
  have hx := S.1
  have hb := S.2.1
  intro n
  induction n with
  | zero => intro x3 x4 ls hl hw hf; cases hf
  | succ n ih =>
    intro x3 x4 ls hl hw hf
    rw [mM_takenBack_L5] at hf
    refine lv_iload (pc := 5) hx hb dM_takenBack_5 (lv_at hl 4 rfl) ?_
    refine lv_iconst (pc := 7) (v := (4 : Int32)) hx hb dM_takenBack_7 (by decide) ?_
    refine lv_icmp_ge (pc := 8) (tgt := 116) hx hb dM_takenBack_8 (by decide) (fun hc => ?_) (fun hc => ?_)
    · replace hf := jit hf hc
      refine lv_iload_n (pc := 116) hx hb dM_takenBack_116 rfl (lv_at hl 3 rfl) ?_
      obtain rfl := jsm hf
      exact j_ipr (pc := 117) S hr hlk dM_takenBack_117
    · replace hf := jif hf hc
      refine lv_aload_n (pc := 11) hx hb dM_takenBack_11 rfl (lv_at hl 0 rfl) ?_
      refine lv_iload (pc := 12) hx hb dM_takenBack_12 (lv_at hl 4 rfl) ?_
      refine lv_aload_n (pc := 14) hx hb dM_takenBack_14 rfl (lv_at hl 0 rfl) ?_
      refine j_get (pc := 15) (v := .int (σ 100 8)) S hw inM 0 6 23 mg_0 rfl (by decide) k_619 rfl dM_takenBack_15 ?_
      have hg := jbn_e hf; clear hf; obtain ⟨q1, h2, hf⟩ := hg
      refine j_cpi (pc := 18) (v := q1) (va_runV (As := [.int x4, .int (σ 100 8)]) (rest := []) S (kM_cycleAt l D ca ad _ σ x4 (σ 100 8) q1 h2) (cwV 2 S.2.2.2.2 (jgV k_703 k_705 ks_18 k_7 k_706) rfl rfl rfl (by decide +kernel) ⟨Nat.le_of_ble_eq_true rfl, Nat.le_of_ble_eq_true rfl⟩) (j_preV (As := [.int x4, .int (σ 100 8)]) hw mN_b (mN_to hN hw hA) rfl mg_0) rfl rfl hl.1 rfl (lv_room (Nat.le_of_ble_eq_true rfl)) dM_takenBack_18 ⟨Nat.le_of_ble_eq_true rfl, Nat.le_of_ble_eq_true rfl⟩) ?_
      refine lv_istore (pc := 21) (lv' := [(5, .int q1), (0, .ref (ad 0)), (1, .int x1), (2, .int x2), (3, .int x3), (4, .int x4)]) hx hb dM_takenBack_21 hl (by decide) rfl (fun ls hl => ?_)
      refine lv_aload_n (pc := 23) hx hb dM_takenBack_23 rfl (lv_at hl 1 rfl) ?_
      refine j_get (pc := 24) (v := .int (σ 100 8)) S hw inM 0 6 23 mg_0 rfl (by decide) k_619 rfl dM_takenBack_24 ?_
      refine lv_istore (pc := 27) (lv' := [(6, .int (σ 100 8)), (5, .int q1), (0, .ref (ad 0)), (1, .int x1), (2, .int x2), (3, .int x3), (4, .int x4)]) hx hb dM_takenBack_27 hl (by decide) rfl (fun ls hl => ?_)
      refine wmM_takenBack_L29 hA S hN hr hlk out _ σ x1 x2 x4 q1 (fun z12 z13 ls hl hw hf => ?_) 999 x3 (σ 100 8) _ (lv_sub hl [2, 3, 4, 5, 6, 1, 0] rfl) hw hf
      try dsimp only at hf
      refine lv_iinc (pc := 110) (v := (x4 + 1)) (k := 4) (lv' := [(4, .int (x4 + 1)), (0, .ref (ad 0)), (1, .int x1), (2, .int x2), (3, .int z12), (5, .int q1), (6, .int z13)]) hx hb dM_takenBack_110 hl rfl (j_inc _ (by decide)) (by decide) rfl (fun ls hl => ?_)
      refine lv_goto (pc := 113) (tgt := 5) hx hb dM_takenBack_113 (by decide) ?_
      exact ih z12 (x4 + 1) _ (lv_sub hl [1, 2, 3, 4, 0] rfl) hw hf
set_option maxHeartbeats 4000000 in
set_option maxRecDepth 100000 in
theorem bM_takenBack {p : Program} {l : Launch} {e : Env} {s : State} {m : MethodId} {args : Array Value} {below : List Frame} {meth : Method} {c : Code} {D : va_G} {ca : Nat → ClassId} {ad : Nat → Nat} {A : Nat → Prop} (hA : ∀ q, s.heap.size ≤ q → A q) (S : CallFix p m c cM_takenBack 8 s args jall RM) (hN : mN A s) (hr : meth.sig.returnType = some .int) (hlk : meth.locks = false) (out : Int32) (σ : JS) (x1 : Int32) (x2 : Int32) (ls : Array Slot) (hl : lv_has ls 8 [(0, .ref (ad 0)), (1, .int x1), (2, .int x2)]) (hw : jH D (mT ca) (mC ca ad σ) A s.heap s.heap [] s) (hf : mM_takenBack σ x1 x2 = some out) : W p l e (headSpec wsM_takenBack rmM_takenBack).room s m args below meth c s.heap [] 0 0 (MQ below (jSi out) args s 0 0 (fun _ => False)) (F0 m 0 ls []) := by
  have hx := S.1
  have hb := S.2.1
  unfold mM_takenBack at hf
  refine lv_iconst (pc := 0) (v := (0 : Int32)) hx hb dM_takenBack_0 (by decide) ?_
  refine lv_istore_n (pc := 1) (lv' := [(3, .int (0 : Int32)), (0, .ref (ad 0)), (1, .int x1), (2, .int x2)]) hx hb dM_takenBack_1 rfl hl (by decide) rfl (fun ls hl => ?_)
  refine lv_iconst (pc := 2) (v := (0 : Int32)) hx hb dM_takenBack_2 (by decide) ?_
  refine lv_istore (pc := 3) (lv' := [(4, .int (0 : Int32)), (3, .int (0 : Int32)), (0, .ref (ad 0)), (1, .int x1), (2, .int x2)]) hx hb dM_takenBack_3 hl (by decide) rfl (fun ls hl => ?_)
  exact wmM_takenBack_L5 hA S hN hr hlk out σ x1 x2 999 (0 : Int32) (0 : Int32) _ (lv_sub hl [2, 3, 4, 1, 0] rfl) hw hf
set_option maxHeartbeats 4000000 in
set_option maxRecDepth 100000 in
theorem kM_takenBack (l : Launch) (D : va_G) (ca : Nat → ClassId) (ad : Nat → Nat) (sz : Nat) (σ : JS) (x1 : Int32) (x2 : Int32) (out : Int32) (hf : mM_takenBack σ x1 x2 = some out) : Met l yM_takenBack wsM_takenBack rmM_takenBack (jPre D (mT ca) (mC ca ad σ) (mN (va_A (mC ca ad σ) sz)) sz [.ref (ad 0), .int x1, .int x2]) (jSi out) 0 0 (fun _ => False) := by
  refine Met.ofW (cc := cM_takenBack) (maxL := 8) (ret := some .int) (by decide) rfl ?_
  intro p e s m args below meth c s₁ B hml hv
  obtain ⟨rfl, hsz, hP, hK, hD0, hN⟩ := hv
  subst hsz
  have hl := lv_entry [.ref (ad 0), .int x1, .int x2] (n := 8) (Nat.le_of_ble_eq_true rfl)
  rw [lg_entry_eq]
  generalize (lg_sl [.ref (ad 0), .int x1, .int x2] ++ List.replicate (8 - (lg_sl [.ref (ad 0), .int x1, .int x2]).length) Slot.unset).toArray = ls at hl ⊢
  exact bM_takenBack (fun q h => Or.inr h) ⟨B.exec, B.bytes, hml, findClass_of_methodNamed B.named, fun w h => atoms_spec (ws := wsM_takenBack) B.pre w (List.mem_cons_of_mem _ h)⟩ hN B.returns B.notSynchronized out σ x1 x2 ls hl ⟨hP, hD0.self, va_S.rf, hK⟩ hf

def rmM_remote : Room := { frames := 3, cells := 0, slots := 0, locals := 65 }
def mM_remote_J35 (σ : JS) (x1 : Int32) (x2 : Int32) (y0 : Int32) : Option (Int64 × JS) :=
  if y0 ≤ 0 then
  (jbn (mM_valueAt σ x1 x2 (σ 100 8)) fun q5 =>
  some (q5.toInt64, σ))
  else
  (jrd σ 8 121 y0 fun v7 =>
  some (v7.toInt64, σ))
def mM_remote (σ : JS) (x1 : Int32) (x2 : Int32) : Option (Int64 × JS) :=
  jst (jw2 σ 100 0 (0 : Int32)) fun σ1 =>
  jbn (mM_isRecord σ1 x1 x2) fun q3 =>
  if q3 = 0 then
  (some ((1099511627776 : Int64), σ1))
  else
  (if (σ1 100 9) = 0 then
  (mM_remote_J35 σ1 x1 x2 (0 : Int32))
  else
  (jbn (mM_takenBack σ1 x1 x2) fun q10 =>
  mM_remote_J35 σ1 x1 x2 q10))
set_option maxHeartbeats 4000000 in
set_option maxRecDepth 100000 in
theorem wmM_remote_J35g {p : Program} {l : Launch} {e : Env} {s : State} {m : MethodId} {args : Array Value} {below : List Frame} {meth : Method} {c : Code} {D : va_G} {ca : Nat → ClassId} {ad : Nat → Nat} {A : Nat → Prop} (hA : ∀ q, s.heap.size ≤ q → A q) (S : CallFix p m c cM_remote 4 s args jall RM) (hN : mN A s) (hr : meth.sig.returnType = some .long) (hlk : meth.locks = false) (out : Int64 × JS) (σ : JS) (x1 : Int32) (x2 : Int32) (y0 : Int32) (ls : Array Slot) (H : Heap) (locs : List Loc) (hl : lv_has ls 4 [(0, .ref (ad 0)), (1, .int x1), (2, .int x2)]) (hw : jH D (mT ca) (mC ca ad σ) A s.heap H locs s) (hf : mM_remote_J35 σ x1 x2 y0 = some out) : W p l e (headSpec wsM_remote rmM_remote).room s m args below meth c H locs 0 0 (MQ below (jQl D (mT ca) (mC ca ad) A out.1 out.2) args s 0 0 A) (F0 m 35 ls [.int y0]) := by
  have hx := S.1
  have hb := S.2.1
  unfold mM_remote_J35 at hf
  refine lv_istore_n (pc := 35) (lv' := [(3, .int y0), (0, .ref (ad 0)), (1, .int x1), (2, .int x2)]) hx hb dM_remote_35 rfl hl (by decide) rfl (fun ls hl => ?_)
  refine lv_iload_n (pc := 36) hx hb dM_remote_36 rfl (lv_at hl 0 rfl) ?_
  refine lv_if_le (pc := 37) (tgt := 50) hx hb dM_remote_37 (by decide) (fun hc => ?_) (fun hc => ?_)
  · replace hf := jit hf hc
    refine lv_aload_n (pc := 50) hx hb dM_remote_50 rfl (lv_at hl 1 rfl) ?_
    refine lv_iload_n (pc := 51) hx hb dM_remote_51 rfl (lv_at hl 2 rfl) ?_
    refine lv_iload_n (pc := 52) hx hb dM_remote_52 rfl (lv_at hl 3 rfl) ?_
    refine lv_aload_n (pc := 53) hx hb dM_remote_53 rfl (lv_at hl 1 rfl) ?_
    refine j_get (pc := 54) (v := .int (σ 100 8)) S hw inM 0 6 23 mg_0 rfl (by decide) k_619 rfl dM_remote_54 ?_
    have hg := jbn_e hf; clear hf; obtain ⟨q5, h6, hf⟩ := hg
    refine j_cpi (pc := 57) (v := q5) (va_runV (As := [.int x1, .int x2, .int (σ 100 8)]) (rest := []) S (kM_valueAt l D ca ad _ σ x1 x2 (σ 100 8) q5 h6) (cwV 3 S.2.2.2.2 (jgV k_727 k_729 ks_20 k_7 k_730) rfl rfl rfl (by decide +kernel) ⟨Nat.le_of_ble_eq_true rfl, Nat.le_of_ble_eq_true rfl⟩) (j_preV (As := [.int x1, .int x2, .int (σ 100 8)]) hw mN_b (mN_to hN hw hA) rfl mg_0) rfl rfl hl.1 rfl (lv_room (Nat.le_of_ble_eq_true rfl)) dM_remote_57 ⟨Nat.le_of_ble_eq_true rfl, Nat.le_of_ble_eq_true rfl⟩) ?_
    refine lv_i2l (pc := 60) (v := q5.toInt64) hx hb dM_remote_60 rfl ?_
    obtain rfl := jsm hf
    exact j_lret (pc := 61) S hw hr hlk dM_remote_61
  · replace hf := jif hf hc
    refine lv_aload_n (pc := 40) hx hb dM_remote_40 rfl (lv_at hl 1 rfl) ?_
    refine j_get (pc := 41) (v := .ref (ad 8)) S hw inM 0 6 13 mg_0 rfl (by decide) k_609 rfl dM_remote_41 ?_
    refine lv_iload_n (pc := 44) hx hb dM_remote_44 rfl (lv_at hl 0 rfl) ?_
    have hg := jrd_e hf; clear hf; obtain ⟨h8, v7, e9, hf⟩ := hg
    refine j_iald (pc := 45) S hw 8 7 mg_8 mt_8 h8 e9 dM_remote_45 ?_
    refine lv_i2l (pc := 46) (v := v7.toInt64) hx hb dM_remote_46 rfl ?_
    refine lv_goto (pc := 47) (tgt := 61) hx hb dM_remote_47 (by decide) ?_
    obtain rfl := jsm hf
    exact j_lret (pc := 61) S hw hr hlk dM_remote_61
set_option maxHeartbeats 4000000 in
set_option maxRecDepth 100000 in
theorem bM_remote {p : Program} {l : Launch} {e : Env} {s : State} {m : MethodId} {args : Array Value} {below : List Frame} {meth : Method} {c : Code} {D : va_G} {ca : Nat → ClassId} {ad : Nat → Nat} {A : Nat → Prop} (hA : ∀ q, s.heap.size ≤ q → A q) (S : CallFix p m c cM_remote 4 s args jall RM) (hN : mN A s) (hr : meth.sig.returnType = some .long) (hlk : meth.locks = false) (out : Int64 × JS) (σ : JS) (x1 : Int32) (x2 : Int32) (ls : Array Slot) (hl : lv_has ls 4 [(0, .ref (ad 0)), (1, .int x1), (2, .int x2)]) (hw : jH D (mT ca) (mC ca ad σ) A s.heap s.heap [] s) (hf : mM_remote σ x1 x2 = some out) : W p l e (headSpec wsM_remote rmM_remote).room s m args below meth c s.heap [] 0 0 (MQ below (jQl D (mT ca) (mC ca ad) A out.1 out.2) args s 0 0 A) (F0 m 0 ls []) := by
  have hx := S.1
  have hb := S.2.1
  unfold mM_remote at hf
  refine lv_aload_n (pc := 0) hx hb dM_remote_0 rfl (lv_at hl 0 rfl) ?_
  refine lv_iconst (pc := 1) (v := (0 : Int32)) hx hb dM_remote_1 (by decide) ?_
  have hg := jst_e hf; clear hf; obtain ⟨σ1, e2, hf⟩ := hg
  refine j_put (pc := 2) (v := .int (0 : Int32)) (ws' := mC ca ad σ1) S hw inM tyM tyM_ok nmM 0 6 0 mg_0 rfl (by decide) k_596 rfl rfl rfl (Nat.le_of_ble_eq_true rfl) (by rw [e2]; exact mp_0) dM_remote_2 (fun H locs hw => ?_)
  refine lv_aload_n (pc := 5) hx hb dM_remote_5 rfl (lv_at hl 0 rfl) ?_
  refine lv_iload_n (pc := 6) hx hb dM_remote_6 rfl (lv_at hl 1 rfl) ?_
  refine lv_iload_n (pc := 7) hx hb dM_remote_7 rfl (lv_at hl 2 rfl) ?_
  have hg := jbn_e hf; clear hf; obtain ⟨q3, h4, hf⟩ := hg
  refine j_cpi (pc := 8) (v := q3) (va_runV (As := [.int x1, .int x2]) (rest := []) S (kM_isRecord l D ca ad _ σ1 x1 x2 q3 h4) (cwV 2 S.2.2.2.2 (jgV k_687 k_689 ks_28 k_7 k_690) rfl rfl rfl (by decide +kernel) ⟨Nat.le_of_ble_eq_true rfl, Nat.le_of_ble_eq_true rfl⟩) (j_preV (As := [.int x1, .int x2]) hw mN_b (mN_to hN hw hA) rfl mg_0) rfl rfl hl.1 rfl (lv_room (Nat.le_of_ble_eq_true rfl)) dM_remote_8 ⟨Nat.le_of_ble_eq_true rfl, Nat.le_of_ble_eq_true rfl⟩) ?_
  refine lv_if_ne (pc := 11) (tgt := 18) hx hb dM_remote_11 (by decide) (fun hc => ?_) (fun hc => ?_)
  · replace hf := jif hf hc
    refine lv_aload_n (pc := 18) hx hb dM_remote_18 rfl (lv_at hl 0 rfl) ?_
    refine j_get (pc := 19) (v := .int (σ1 100 9)) S hw inM 0 6 24 mg_0 rfl (by decide) k_620 rfl dM_remote_19 ?_
    refine lv_if_eq (pc := 22) (tgt := 34) hx hb dM_remote_22 (by decide) (fun hc => ?_) (fun hc => ?_)
    · replace hf := jit hf hc
      refine lv_iconst (pc := 34) (v := (0 : Int32)) hx hb dM_remote_34 (by decide) ?_
      exact wmM_remote_J35g hA S hN hr hlk out σ1 x1 x2 (0 : Int32) _ _ _ (lv_sub hl [0, 1, 2] rfl) hw hf
    · replace hf := jif hf hc
      refine lv_aload_n (pc := 25) hx hb dM_remote_25 rfl (lv_at hl 0 rfl) ?_
      refine lv_iload_n (pc := 26) hx hb dM_remote_26 rfl (lv_at hl 1 rfl) ?_
      refine lv_iload_n (pc := 27) hx hb dM_remote_27 rfl (lv_at hl 2 rfl) ?_
      have hg := jbn_e hf; clear hf; obtain ⟨q10, h11, hf⟩ := hg
      refine j_cpi (pc := 28) (v := q10) (va_runV (As := [.int x1, .int x2]) (rest := []) S (kM_takenBack l D ca ad _ σ1 x1 x2 q10 h11) (cwV 2 S.2.2.2.2 (jgV k_828 k_830 ks_34 k_7 k_831) rfl rfl rfl (by decide +kernel) ⟨Nat.le_of_ble_eq_true rfl, Nat.le_of_ble_eq_true rfl⟩) (j_preV (As := [.int x1, .int x2]) hw mN_b (mN_to hN hw hA) rfl mg_0) rfl rfl hl.1 rfl (lv_room (Nat.le_of_ble_eq_true rfl)) dM_remote_28 ⟨Nat.le_of_ble_eq_true rfl, Nat.le_of_ble_eq_true rfl⟩) ?_
      refine lv_goto (pc := 31) (tgt := 35) hx hb dM_remote_31 (by decide) ?_
      exact wmM_remote_J35g hA S hN hr hlk out σ1 x1 x2 q10 _ _ _ (lv_sub hl [0, 1, 2] rfl) hw hf
  · replace hf := jit hf hc
    refine lv_ldc2 (pc := 14) (v := (1099511627776 : Int64)) hx hb S.2.2.2.1 (S.2.2.2.2 _ k_739) dM_remote_14 ?_
    obtain rfl := jsm hf
    exact j_lret (pc := 17) S hw hr hlk dM_remote_17
set_option maxHeartbeats 4000000 in
set_option maxRecDepth 100000 in
theorem kM_remote (l : Launch) (D : va_G) (ca : Nat → ClassId) (ad : Nat → Nat) (sz : Nat) (σ : JS) (x1 : Int32) (x2 : Int32) (out : Int64 × JS) (hf : mM_remote σ x1 x2 = some out) : Met l yM_remote wsM_remote rmM_remote (jPre D (mT ca) (mC ca ad σ) (mN (va_A (mC ca ad σ) sz)) sz [.ref (ad 0), .int x1, .int x2]) (jQl D (mT ca) (mC ca ad) (va_A (mC ca ad σ) sz) out.1 out.2) 0 0 (va_A (mC ca ad σ) sz) := by
  refine Met.ofW (cc := cM_remote) (maxL := 4) (ret := some .long) (by decide) rfl ?_
  intro p e s m args below meth c s₁ B hml hv
  obtain ⟨rfl, hsz, hP, hK, hD0, hN⟩ := hv
  subst hsz
  have hl := lv_entry [.ref (ad 0), .int x1, .int x2] (n := 4) (Nat.le_of_ble_eq_true rfl)
  rw [lg_entry_eq]
  generalize (lg_sl [.ref (ad 0), .int x1, .int x2] ++ List.replicate (4 - (lg_sl [.ref (ad 0), .int x1, .int x2]).length) Slot.unset).toArray = ls at hl ⊢
  exact bM_remote (fun q h => Or.inr h) ⟨B.exec, B.bytes, hml, findClass_of_methodNamed B.named, fun w h => atoms_spec (ws := wsM_remote) B.pre w (List.mem_cons_of_mem _ h)⟩ hN B.returns B.notSynchronized out σ x1 x2 ls hl ⟨hP, hD0.self, va_S.rf, hK⟩ hf

