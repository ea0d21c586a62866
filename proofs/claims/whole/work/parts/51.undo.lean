def uC (ca : Nat → ClassId) (ad : Nat → Nat) (σ : JS) : va_W := xC ca ad σ ++ [(ad 30, .inl (ca 30, 4, .inl (σ 30)))]
def uT (ca : Nat → ClassId) : List (ClassId × FieldType) := xT ca ++ [(ca 30, .boolean)]
theorem ug_0 {ca : Nat → ClassId} {ad : Nat → Nat} {σ : JS} : (uC ca ad σ)[0]? = some (ad 0, .inr (0, xF_0 ad σ)) := rfl
theorem ug_1 {ca : Nat → ClassId} {ad : Nat → Nat} {σ : JS} : (uC ca ad σ)[1]? = some (ad 1, .inr (1, xF_1 ad σ)) := rfl
theorem ug_2 {ca : Nat → ClassId} {ad : Nat → Nat} {σ : JS} : (uC ca ad σ)[2]? = some (ad 2, .inr (2, xF_2 ad σ)) := rfl
theorem ug_3 {ca : Nat → ClassId} {ad : Nat → Nat} {σ : JS} : (uC ca ad σ)[3]? = some (ad 3, .inr (3, xF_3 ad σ)) := rfl
theorem ug_4 {ca : Nat → ClassId} {ad : Nat → Nat} {σ : JS} : (uC ca ad σ)[4]? = some (ad 4, .inr (4, xF_4 ad σ)) := rfl
theorem ug_5 {ca : Nat → ClassId} {ad : Nat → Nat} {σ : JS} : (uC ca ad σ)[5]? = some (ad 5, .inr (5, xF_5 ad σ)) := rfl
theorem ug_6 {ca : Nat → ClassId} {ad : Nat → Nat} {σ : JS} : (uC ca ad σ)[6]? = some (ad 6, .inl (ca 6, 121, .inl (σ 6))) := rfl
theorem ut_6 {ca : Nat → ClassId} : (uT ca)[0]? = some (ca 6, .int) := rfl
theorem ug_7 {ca : Nat → ClassId} {ad : Nat → Nat} {σ : JS} : (uC ca ad σ)[7]? = some (ad 7, .inl (ca 7, 121, .inl (σ 7))) := rfl
theorem ut_7 {ca : Nat → ClassId} : (uT ca)[1]? = some (ca 7, .int) := rfl
theorem ug_8 {ca : Nat → ClassId} {ad : Nat → Nat} {σ : JS} : (uC ca ad σ)[8]? = some (ad 8, .inl (ca 8, 121, .inl (σ 8))) := rfl
theorem ut_8 {ca : Nat → ClassId} : (uT ca)[2]? = some (ca 8, .int) := rfl
theorem ug_9 {ca : Nat → ClassId} {ad : Nat → Nat} {σ : JS} : (uC ca ad σ)[9]? = some (ad 9, .inl (ca 9, 121, .inl (σ 9))) := rfl
theorem ut_9 {ca : Nat → ClassId} : (uT ca)[3]? = some (ca 9, .int) := rfl
theorem ug_10 {ca : Nat → ClassId} {ad : Nat → Nat} {σ : JS} : (uC ca ad σ)[10]? = some (ad 10, .inl (ca 10, 121, .inl (σ 10))) := rfl
theorem ut_10 {ca : Nat → ClassId} : (uT ca)[4]? = some (ca 10, .int) := rfl
theorem ug_11 {ca : Nat → ClassId} {ad : Nat → Nat} {σ : JS} : (uC ca ad σ)[11]? = some (ad 11, .inl (ca 11, 121, .inl (σ 11))) := rfl
theorem ut_11 {ca : Nat → ClassId} : (uT ca)[5]? = some (ca 11, .int) := rfl
theorem ug_12 {ca : Nat → ClassId} {ad : Nat → Nat} {σ : JS} : (uC ca ad σ)[12]? = some (ad 12, .inl (ca 12, 4, .inl (σ 12))) := rfl
theorem ut_12 {ca : Nat → ClassId} : (uT ca)[6]? = some (ca 12, .int) := rfl
theorem ug_13 {ca : Nat → ClassId} {ad : Nat → Nat} {σ : JS} : (uC ca ad σ)[13]? = some (ad 13, .inl (ca 13, 4, .inl (σ 13))) := rfl
theorem ut_13 {ca : Nat → ClassId} : (uT ca)[7]? = some (ca 13, .int) := rfl
theorem ug_14 {ca : Nat → ClassId} {ad : Nat → Nat} {σ : JS} : (uC ca ad σ)[14]? = some (ad 14, .inl (ca 14, 4, .inl (σ 14))) := rfl
theorem ut_14 {ca : Nat → ClassId} : (uT ca)[8]? = some (ca 14, .int) := rfl
theorem ug_15 {ca : Nat → ClassId} {ad : Nat → Nat} {σ : JS} : (uC ca ad σ)[15]? = some (ad 15, .inl (ca 15, 24, .inl (σ 15))) := rfl
theorem ut_15 {ca : Nat → ClassId} : (uT ca)[9]? = some (ca 15, .int) := rfl
theorem ug_16 {ca : Nat → ClassId} {ad : Nat → Nat} {σ : JS} : (uC ca ad σ)[16]? = some (ad 16, .inl (ca 16, 24, .inl (σ 16))) := rfl
theorem ut_16 {ca : Nat → ClassId} : (uT ca)[10]? = some (ca 16, .int) := rfl
theorem ug_17 {ca : Nat → ClassId} {ad : Nat → Nat} {σ : JS} : (uC ca ad σ)[17]? = some (ad 17, .inl (ca 17, 24, .inl (σ 17))) := rfl
theorem ut_17 {ca : Nat → ClassId} : (uT ca)[11]? = some (ca 17, .int) := rfl
theorem ug_18 {ca : Nat → ClassId} {ad : Nat → Nat} {σ : JS} : (uC ca ad σ)[18]? = some (ad 18, .inl (ca 18, 24, .inl (σ 18))) := rfl
theorem ut_18 {ca : Nat → ClassId} : (uT ca)[12]? = some (ca 18, .int) := rfl
theorem ug_19 {ca : Nat → ClassId} {ad : Nat → Nat} {σ : JS} : (uC ca ad σ)[19]? = some (ad 19, .inl (ca 19, 4, .inl (σ 19))) := rfl
theorem ut_19 {ca : Nat → ClassId} : (uT ca)[13]? = some (ca 19, .boolean) := rfl
theorem ug_20 {ca : Nat → ClassId} {ad : Nat → Nat} {σ : JS} : (uC ca ad σ)[20]? = some (ad 20, .inl (ca 20, 4, .inl (σ 20))) := rfl
theorem ut_20 {ca : Nat → ClassId} : (uT ca)[14]? = some (ca 20, .int) := rfl
theorem ug_21 {ca : Nat → ClassId} {ad : Nat → Nat} {σ : JS} : (uC ca ad σ)[21]? = some (ad 21, .inl (ca 21, 4, .inl (σ 21))) := rfl
theorem ut_21 {ca : Nat → ClassId} : (uT ca)[15]? = some (ca 21, .int) := rfl
theorem ug_22 {ca : Nat → ClassId} {ad : Nat → Nat} {σ : JS} : (uC ca ad σ)[22]? = some (ad 22, .inl (ca 22, 32, .inl (σ 22))) := rfl
theorem ut_22 {ca : Nat → ClassId} : (uT ca)[16]? = some (ca 22, .int) := rfl
theorem ug_23 {ca : Nat → ClassId} {ad : Nat → Nat} {σ : JS} : (uC ca ad σ)[23]? = some (ad 23, .inl (ca 23, 16, .inl (σ 23))) := rfl
theorem ut_23 {ca : Nat → ClassId} : (uT ca)[17]? = some (ca 23, .int) := rfl
theorem ug_24 {ca : Nat → ClassId} {ad : Nat → Nat} {σ : JS} : (uC ca ad σ)[24]? = some (ad 24, .inl (ca 24, 24, .inl (σ 24))) := rfl
theorem ut_24 {ca : Nat → ClassId} : (uT ca)[18]? = some (ca 24, .int) := rfl
theorem us_24 {ca : Nat → ClassId} {ad : Nat → Nat} {σ : JS} {j : Nat} {v : Int32} : (uC ca ad σ).set 24 (ad 24, .inl (ca 24, 24, .inl (upd (σ 24) j v))) = uC ca ad (jw2 σ 24 j v) := rfl
theorem ug_25 {ca : Nat → ClassId} {ad : Nat → Nat} {σ : JS} : (uC ca ad σ)[25]? = some (ad 25, .inl (ca 25, 121, .inl (σ 25))) := rfl
theorem ut_25 {ca : Nat → ClassId} : (uT ca)[19]? = some (ca 25, .boolean) := rfl
theorem ug_26 {ca : Nat → ClassId} {ad : Nat → Nat} {σ : JS} : (uC ca ad σ)[26]? = some (ad 26, .inl (ca 26, 3, .inl (σ 26))) := rfl
theorem ut_26 {ca : Nat → ClassId} : (uT ca)[20]? = some (ca 26, .int) := rfl
theorem ug_27 {ca : Nat → ClassId} {ad : Nat → Nat} {σ : JS} : (uC ca ad σ)[27]? = some (ad 27, .inl (ca 27, 3, .inl (σ 27))) := rfl
theorem ut_27 {ca : Nat → ClassId} : (uT ca)[21]? = some (ca 27, .int) := rfl
theorem ug_28 {ca : Nat → ClassId} {ad : Nat → Nat} {σ : JS} : (uC ca ad σ)[28]? = some (ad 28, .inl (ca 28, 3, .inl (σ 28))) := rfl
theorem ut_28 {ca : Nat → ClassId} : (uT ca)[22]? = some (ca 28, .int) := rfl
theorem ug_29 {ca : Nat → ClassId} {ad : Nat → Nat} {σ : JS} : (uC ca ad σ)[29]? = some (ad 29, .inl (ca 29, 8, .inl (σ 29))) := rfl
theorem ut_29 {ca : Nat → ClassId} : (uT ca)[23]? = some (ca 29, .int) := rfl
theorem ug_30 {ca : Nat → ClassId} {ad : Nat → Nat} {σ : JS} : (uC ca ad σ)[30]? = some (ad 30, .inl (ca 30, 4, .inl (σ 30))) := rfl
theorem ut_30 {ca : Nat → ClassId} : (uT ca)[24]? = some (ca 30, .boolean) := rfl
theorem us_30 {ca : Nat → ClassId} {ad : Nat → Nat} {σ : JS} {j : Nat} {v : Int32} : (uC ca ad σ).set 30 (ad 30, .inl (ca 30, 4, .inl (upd (σ 30) j v))) = uC ca ad (jw2 σ 30 j v) := rfl
theorem uH_x {D : va_G} {ca : Nat → ClassId} {ad : Nat → Nat} {σ : JS} {A : Nat → Prop} {H0 H : Heap} {locs : List Loc} {s : State} (h : jH D (uT ca) (uC ca ad σ) A H0 H locs s) : jH D (xT ca) (xC ca ad σ) A H0 H locs s := by
  obtain ⟨hP, hD, hS, hK⟩ := h
  refine ⟨fun k q hk => hP k q ?_, ⟨fun i j p q hi hj => hD.1 i j p q ?_ ?_, fun k q hk => hD.2 k q ?_⟩, hS, ⟨hK.1, fun k q hk => hK.2 k q ?_⟩⟩
  · unfold uC; exact List.getElem?_append_left (List.getElem?_eq_some_iff.mp hk).1 ▸ hk
  · unfold uC; exact List.getElem?_append_left (List.getElem?_eq_some_iff.mp hi).1 ▸ hi
  · unfold uC; exact List.getElem?_append_left (List.getElem?_eq_some_iff.mp hj).1 ▸ hj
  · unfold uC; exact List.getElem?_append_left (List.getElem?_eq_some_iff.mp hk).1 ▸ hk
  · unfold uT; exact List.getElem?_append_left (List.getElem?_eq_some_iff.mp hk).1 ▸ hk

def rmR_undoOpenCycles : Room := { frames := 0, cells := 1, slots := 4, locals := 0 }
def mR_undoOpenCycles_L22  : Nat → JS → Int32 → Option (JS)
  | 0, _, _ => none
  | n + 1, σ, x3 =>
    if x3 ≤ 0 then
    (some σ)
    else
    (jrd σ 7 121 x3 fun v1 =>
    jrd σ 6 121 x3 fun v4 =>
    if v4 = (1 : Int32) then
    (jrd σ 30 4 v1 fun v7 =>
    if v7 = 0 then
    (jrd σ 8 121 x3 fun v10 =>
    jrd σ 9 121 x3 fun v13 =>
    jwr σ 24 24 v10 v13 fun σ16 =>
    mR_undoOpenCycles_L22  n σ16 (x3 + (-1)))
    else
    (mR_undoOpenCycles_L22  n σ (x3 + (-1))))
    else
    (jwr σ 30 4 v1 (1 : Int32) fun σ19 =>
    mR_undoOpenCycles_L22  n σ19 (x3 + (-1))))
def mR_undoOpenCycles_J16 (σ : JS)  : Option (JS) :=
  mR_undoOpenCycles_L22  999 σ (σ 100 4)
set_option maxHeartbeats 4000000 in
set_option maxRecDepth 100000 in
theorem wmR_undoOpenCycles_L22g {p : Program} {l : Launch} {e : Env} {s : State} {m : MethodId} {args : Array Value} {below : List Frame} {meth : Method} {c : Code} {D : va_G} {ca : Nat → ClassId} {ad : Nat → Nat} {A : Nat → Prop} (hA : ∀ q, s.heap.size ≤ q → A q) (S : CallFix p m c cR_undoOpenCycles 5 s args jall RR) (hN : xN A s) (hr : meth.sig.returnType = none) (hlk : meth.locks = false) (out : JS)  : ∀ (n : Nat) (σ : JS) (x3 : Int32) (ls : Array Slot) (H : Heap) (locs : List Loc), lv_has ls 5 [(0, .ref (ad 5)), (1, .ref (ad 1)), (2, .ref (ad 30)), (3, .int x3)] → jH D (uT ca) (uC ca ad σ) A s.heap H locs s → mR_undoOpenCycles_L22  n σ x3 = some out → W p l e (headSpec wsR_undoOpenCycles rmR_undoOpenCycles).room s m args below meth c H locs 1 4 (MQ below (jQv D (xT ca) (xC ca ad) A out) args s 1 4 A) (F0 m 22 ls []) := by
  have hx := S.1
  have hb := S.2.1
  intro n
  induction n with
  | zero => intro σ x3 ls H locs hl hw hf; cases hf
  | succ n ih =>
    intro σ x3 ls H locs hl hw hf
    rw [mR_undoOpenCycles_L22] at hf
    refine lv_iload_n (pc := 22) hx hb dR_undoOpenCycles_22 rfl (lv_at hl 3 rfl) ?_
    refine lv_if_le (pc := 23) (tgt := 82) hx hb dR_undoOpenCycles_23 (by decide) (fun hc => ?_) (fun hc => ?_)
    · replace hf := jit hf hc
      obtain rfl := jsm hf
      exact j_vret (C := xC ca ad) (pc := 82) S (uH_x hw) hr hlk dR_undoOpenCycles_82
    · replace hf := jif hf hc
      refine lv_aload_n (pc := 26) hx hb dR_undoOpenCycles_26 rfl (lv_at hl 1 rfl) ?_
      refine j_get (pc := 27) (v := .ref (ad 7)) S hw inJ 1 1 1 ug_1 rfl (by decide) k_33 rfl dR_undoOpenCycles_27 ?_
      refine lv_iload_n (pc := 30) hx hb dR_undoOpenCycles_30 rfl (lv_at hl 3 rfl) ?_
      have hg := jrd_e hf; clear hf; obtain ⟨h2, v1, e3, hf⟩ := hg
      refine j_iald (pc := 31) S hw 7 1 ug_7 ut_7 h2 e3 dR_undoOpenCycles_31 ?_
      refine lv_istore (pc := 32) (lv' := [(4, .int v1), (0, .ref (ad 5)), (1, .ref (ad 1)), (2, .ref (ad 30)), (3, .int x3)]) hx hb dR_undoOpenCycles_32 hl (by decide) rfl (fun ls hl => ?_)
      refine lv_aload_n (pc := 34) hx hb dR_undoOpenCycles_34 rfl (lv_at hl 2 rfl) ?_
      refine j_get (pc := 35) (v := .ref (ad 6)) S hw inJ 1 1 0 ug_1 rfl (by decide) k_30 rfl dR_undoOpenCycles_35 ?_
      refine lv_iload_n (pc := 38) hx hb dR_undoOpenCycles_38 rfl (lv_at hl 4 rfl) ?_
      have hg := jrd_e hf; clear hf; obtain ⟨h5, v4, e6, hf⟩ := hg
      refine j_iald (pc := 39) S hw 6 0 ug_6 ut_6 h5 e6 dR_undoOpenCycles_39 ?_
      refine lv_iconst (pc := 40) (v := (1 : Int32)) hx hb dR_undoOpenCycles_40 (by decide) ?_
      refine lv_icmp_eq (pc := 41) (tgt := 52) hx hb dR_undoOpenCycles_41 (by decide) (fun hc => ?_) (fun hc => ?_)
      · replace hf := jit hf hc
        refine lv_aload_n (pc := 52) hx hb dR_undoOpenCycles_52 rfl (lv_at hl 3 rfl) ?_
        refine lv_iload (pc := 53) hx hb dR_undoOpenCycles_53 (lv_at hl 0 rfl) ?_
        have hg := jrd_e hf; clear hf; obtain ⟨h8, v7, e9, hf⟩ := hg
        refine j_zald (pc := 55) S hw 30 24 ug_30 ut_30 h8 e9 dR_undoOpenCycles_55 ?_
        refine lv_if_ne (pc := 56) (tgt := 76) hx hb dR_undoOpenCycles_56 (by decide) (fun hc => ?_) (fun hc => ?_)
        · replace hf := jif hf hc
          refine lv_iinc (pc := 76) (v := (x3 + (-1))) (k := 4) (lv' := [(3, .int (x3 + (-1))), (4, .int v1), (0, .ref (ad 5)), (1, .ref (ad 1)), (2, .ref (ad 30))]) hx hb dR_undoOpenCycles_76 hl rfl (j_inc _ (by decide)) (by decide) rfl (fun ls hl => ?_)
          refine lv_goto (pc := 79) (tgt := 22) hx hb dR_undoOpenCycles_79 (by decide) ?_
          exact ih σ (x3 + (-1)) _ _ _ (lv_sub hl [2, 3, 4, 0] rfl) hw hf
        · replace hf := jit hf hc
          refine lv_aload_n (pc := 59) hx hb dR_undoOpenCycles_59 rfl (lv_at hl 1 rfl) ?_
          refine j_get (pc := 60) (v := .ref (ad 24)) S hw inR 5 5 0 ug_5 rfl (by decide) k_147 rfl dR_undoOpenCycles_60 ?_
          refine lv_aload_n (pc := 63) hx hb dR_undoOpenCycles_63 rfl (lv_at hl 2 rfl) ?_
          refine j_get (pc := 64) (v := .ref (ad 8)) S hw inJ 1 1 2 ug_1 rfl (by decide) k_36 rfl dR_undoOpenCycles_64 ?_
          refine lv_iload_n (pc := 67) hx hb dR_undoOpenCycles_67 rfl (lv_at hl 4 rfl) ?_
          have hg := jrd_e hf; clear hf; obtain ⟨h11, v10, e12, hf⟩ := hg
          refine j_iald (pc := 68) S hw 8 2 ug_8 ut_8 h11 e12 dR_undoOpenCycles_68 ?_
          refine lv_aload_n (pc := 69) hx hb dR_undoOpenCycles_69 rfl (lv_at hl 2 rfl) ?_
          refine j_get (pc := 70) (v := .ref (ad 9)) S hw inJ 1 1 3 ug_1 rfl (by decide) k_39 rfl dR_undoOpenCycles_70 ?_
          refine lv_iload_n (pc := 73) hx hb dR_undoOpenCycles_73 rfl (lv_at hl 4 rfl) ?_
          have hg := jrd_e hf; clear hf; obtain ⟨h14, v13, e15, hf⟩ := hg
          refine j_iald (pc := 74) S hw 9 3 ug_9 ut_9 h14 e15 dR_undoOpenCycles_74 ?_
          have hg := jwr_e hf; clear hf; obtain ⟨h17, σ16, e18, hf⟩ := hg
          refine j_iast (pc := 75) (ws' := uC ca ad σ16) S hw 24 18 ug_24 ut_24 h17 (by rw [e18]; exact us_24) dR_undoOpenCycles_75 (fun H locs hw => ?_)
          refine lv_iinc (pc := 76) (v := (x3 + (-1))) (k := 4) (lv' := [(3, .int (x3 + (-1))), (4, .int v1), (0, .ref (ad 5)), (1, .ref (ad 1)), (2, .ref (ad 30))]) hx hb dR_undoOpenCycles_76 hl rfl (j_inc _ (by decide)) (by decide) rfl (fun ls hl => ?_)
          refine lv_goto (pc := 79) (tgt := 22) hx hb dR_undoOpenCycles_79 (by decide) ?_
          exact ih σ16 (x3 + (-1)) _ _ _ (lv_sub hl [2, 3, 4, 0] rfl) hw hf
      · replace hf := jif hf hc
        refine lv_aload_n (pc := 44) hx hb dR_undoOpenCycles_44 rfl (lv_at hl 3 rfl) ?_
        refine lv_iload (pc := 45) hx hb dR_undoOpenCycles_45 (lv_at hl 0 rfl) ?_
        refine lv_iconst (pc := 47) (v := (1 : Int32)) hx hb dR_undoOpenCycles_47 (by decide) ?_
        have hg := jwr_e hf; clear hf; obtain ⟨h20, σ19, e21, hf⟩ := hg
        refine j_zast (pc := 48) (ws' := uC ca ad σ19) S hw 30 24 ug_30 ut_30 h20 rfl (by rw [e21]; exact us_30) dR_undoOpenCycles_48 (fun H locs hw => ?_)
        refine lv_goto (pc := 49) (tgt := 76) hx hb dR_undoOpenCycles_49 (by decide) ?_
        refine lv_iinc (pc := 76) (v := (x3 + (-1))) (k := 4) (lv' := [(3, .int (x3 + (-1))), (4, .int v1), (0, .ref (ad 5)), (1, .ref (ad 1)), (2, .ref (ad 30))]) hx hb dR_undoOpenCycles_76 hl rfl (j_inc _ (by decide)) (by decide) rfl (fun ls hl => ?_)
        refine lv_goto (pc := 79) (tgt := 22) hx hb dR_undoOpenCycles_79 (by decide) ?_
        exact ih σ19 (x3 + (-1)) _ _ _ (lv_sub hl [2, 3, 4, 0] rfl) hw hf
set_option maxHeartbeats 4000000 in
set_option maxRecDepth 100000 in
theorem wmR_undoOpenCycles_J16g {p : Program} {l : Launch} {e : Env} {s : State} {m : MethodId} {args : Array Value} {below : List Frame} {meth : Method} {c : Code} {D : va_G} {ca : Nat → ClassId} {ad : Nat → Nat} {A : Nat → Prop} (hA : ∀ q, s.heap.size ≤ q → A q) (S : CallFix p m c cR_undoOpenCycles 5 s args jall RR) (hN : xN A s) (hr : meth.sig.returnType = none) (hlk : meth.locks = false) (out : JS) (σ : JS)  (ls : Array Slot) (H : Heap) (locs : List Loc) (hl : lv_has ls 5 [(0, .ref (ad 5)), (1, .ref (ad 1))]) (hw : jH D (uT ca) (uC ca ad σ) A s.heap H locs s) (hf : mR_undoOpenCycles_J16 σ  = some out) : W p l e (headSpec wsR_undoOpenCycles rmR_undoOpenCycles).room s m args below meth c H locs 1 4 (MQ below (jQv D (xT ca) (xC ca ad) A out) args s 1 4 A) (F0 m 16 ls [.ref (ad 30)]) := by
  have hx := S.1
  have hb := S.2.1
  unfold mR_undoOpenCycles_J16 at hf
  refine lv_astore_n (pc := 16) (lv' := [(2, .ref (ad 30)), (0, .ref (ad 5)), (1, .ref (ad 1))]) hx hb dR_undoOpenCycles_16 rfl hl (by decide) rfl (fun ls hl => ?_)
  refine lv_aload_n (pc := 17) hx hb dR_undoOpenCycles_17 rfl (lv_at hl 1 rfl) ?_
  refine j_get (pc := 18) (v := .int (σ 100 4)) S hw inR 5 5 2 ug_5 rfl (by decide) k_150 rfl dR_undoOpenCycles_18 ?_
  refine lv_istore_n (pc := 21) (lv' := [(3, .int (σ 100 4)), (2, .ref (ad 30)), (0, .ref (ad 5)), (1, .ref (ad 1))]) hx hb dR_undoOpenCycles_21 rfl hl (by decide) rfl (fun ls hl => ?_)
  exact wmR_undoOpenCycles_L22g hA S hN hr hlk out  999 σ (σ 100 4) _ _ _ (lv_sub hl [2, 3, 1, 0] rfl) hw hf
def mR_undoOpenCycles (σ : JS) : Option JS :=
  if (σ 100 5) = 0 then
  (jst (jw2 σ 100 5 (1 : Int32)) fun σ1 =>
  mR_undoOpenCycles_J16 (jwA σ1 30 (fun _ => 0)))
  else
  (some σ)
set_option maxHeartbeats 4000000 in
set_option maxRecDepth 100000 in
theorem bR_undoOpenCycles {p : Program} {l : Launch} {e : Env} {s : State} {m : MethodId} {args : Array Value} {below : List Frame} {meth : Method} {c : Code} {D : va_G} {ca : Nat → ClassId} {ad : Nat → Nat} {A : Nat → Prop} (hA : ∀ q, s.heap.size ≤ q → A q) (S : CallFix p m c cR_undoOpenCycles 5 s args jall RR) (hN : xN A s) (hr : meth.sig.returnType = none) (hlk : meth.locks = false) (out : JS) (σ : JS) (ls : Array Slot) (hl : lv_has ls 5 [(0, .ref (ad 5)), (1, .ref (ad 1))]) (hw : jH D (xT ca) (xC ca ad σ) A s.heap s.heap [] s) (hf : mR_undoOpenCycles σ = some out) : W p l e (headSpec wsR_undoOpenCycles rmR_undoOpenCycles).room s m args below meth c s.heap [] 0 0 (MQ below (jQv D (xT ca) (xC ca ad) A out) args s 1 4 A) (F0 m 0 ls []) := by
  have hx := S.1
  have hb := S.2.1
  unfold mR_undoOpenCycles at hf
  refine lv_aload_n (pc := 0) hx hb dR_undoOpenCycles_0 rfl (lv_at hl 0 rfl) ?_
  refine j_get (pc := 1) (v := .int (σ 100 5)) S hw inR 5 5 3 xg_5 rfl (by decide) k_152 rfl dR_undoOpenCycles_1 ?_
  refine lv_if_eq (pc := 4) (tgt := 8) hx hb dR_undoOpenCycles_4 (by decide) (fun hc => ?_) (fun hc => ?_)
  · replace hf := jit hf hc
    refine lv_aload_n (pc := 8) hx hb dR_undoOpenCycles_8 rfl (lv_at hl 0 rfl) ?_
    refine lv_iconst (pc := 9) (v := (1 : Int32)) hx hb dR_undoOpenCycles_9 (by decide) ?_
    have hg := jst_e hf; clear hf; obtain ⟨σ1, e1, hf⟩ := hg
    refine j_put (pc := 10) (v := .int (1 : Int32)) (ws' := xC ca ad σ1) S hw inR tyR tyR_ok nmR 5 5 3 xg_5 rfl (by decide) k_152 rfl rfl rfl (Nat.le_of_ble_eq_true rfl) (by rw [e1]; exact xp_5) dR_undoOpenCycles_10 (fun H locs hw => ?_)
    refine lv_iconst (pc := 13) (v := (4 : Int32)) hx hb dR_undoOpenCycles_13 (by decide) ?_
    obtain ⟨hP, hD, hS, hK⟩ := hw
    refine va_newa (pc := 14) (atype := .boolean) (ty := .boolean) (N' := 4) (a0 := (4, .inl (fun _ => 0))) hx hb (S.2.2.2.2 _ k_125) rfl hK hP hD hS hA (fun _ => rfl) (by decide) (by decide) (by decide) (Nat.le_of_ble_eq_true rfl) (Nat.le_of_ble_eq_true rfl) dR_undoOpenCycles_14 (fun q cA H hK hP hD hS => ?_)
    have hw2 : jH D (uT (fun k => if k = 30 then cA else ca k)) (uC (fun k => if k = 30 then cA else ca k) (fun k => if k = 30 then q else ad k) (jwA σ1 30 (fun _ => 0))) A s.heap H locs s := ⟨hP, hD, hS, hK⟩
    exact wmR_undoOpenCycles_J16g (ca := fun k => if k = 30 then cA else ca k) (ad := fun k => if k = 30 then q else ad k) hA S hN hr hlk out (jwA σ1 30 (fun _ => 0)) ls H locs hl hw2 hf
  · replace hf := jif hf hc
    obtain rfl := jsm hf
    refine W.widen (k := 1) (n := 4) (Nat.zero_le _) (Nat.zero_le _) ?_
    exact j_vret (pc := 7) S hw hr hlk dR_undoOpenCycles_7
set_option maxHeartbeats 4000000 in
set_option maxRecDepth 100000 in
theorem kR_undoOpenCycles (l : Launch) (D : va_G) (ca : Nat → ClassId) (ad : Nat → Nat) (sz : Nat) (σ : JS) (out : JS) (hf : mR_undoOpenCycles σ = some out) : Met l yR_undoOpenCycles wsR_undoOpenCycles rmR_undoOpenCycles (jPre D (xT ca) (xC ca ad σ) (xN (va_A (xC ca ad σ) sz)) sz [.ref (ad 5), .ref (ad 1)]) (jQv D (xT ca) (xC ca ad) (va_A (xC ca ad σ) sz) out) 1 4 (va_A (xC ca ad σ) sz) := by
  refine Met.ofW (cc := cR_undoOpenCycles) (maxL := 5) (ret := none) (by decide) rfl ?_
  intro p e s m args below meth c s₁ B hml hv
  obtain ⟨rfl, hsz, hP, hK, hD0, hN⟩ := hv
  subst hsz
  have hl := lv_entry [.ref (ad 5), .ref (ad 1)] (n := 5) (Nat.le_of_ble_eq_true rfl)
  rw [lg_entry_eq]
  generalize (lg_sl [.ref (ad 5), .ref (ad 1)] ++ List.replicate (5 - (lg_sl [.ref (ad 5), .ref (ad 1)]).length) Slot.unset).toArray = ls at hl ⊢
  exact bR_undoOpenCycles (fun q h => Or.inr h) ⟨B.exec, B.bytes, hml, findClass_of_methodNamed B.named, fun w h => atoms_spec (ws := wsR_undoOpenCycles) B.pre w (List.mem_cons_of_mem _ h)⟩ hN B.returns B.notSynchronized out σ ls hl ⟨hP, hD0.self, va_S.rf, hK⟩ hf
def rmH_takeOver : Room := { frames := 1, cells := 1, slots := 4, locals := 24 }
def mH_takeOver (σ : JS) : Option (Int32 × JS) :=
  jbn (mR_undoOpenCycles σ) fun q1 =>
  some ((q1 100 4), q1)
set_option maxHeartbeats 4000000 in
set_option maxRecDepth 100000 in
theorem bH_takeOver {p : Program} {l : Launch} {e : Env} {s : State} {m : MethodId} {args : Array Value} {below : List Frame} {meth : Method} {c : Code} {D : va_G} {ca : Nat → ClassId} {ad : Nat → Nat} {A : Nat → Prop} (hA : ∀ q, s.heap.size ≤ q → A q) (S : CallFix p m c cH_takeOver 1 s args jall RH) (hN : xN A s) (hr : meth.sig.returnType = some .int) (hlk : meth.locks = false) (out : Int32 × JS) (σ : JS) (ls : Array Slot) (hl : lv_has ls 1 [(0, .ref (ad 0))]) (hw : jH D (xT ca) (xC ca ad σ) A s.heap s.heap [] s) (hf : mH_takeOver σ = some out) : W p l e (headSpec wsH_takeOver rmH_takeOver).room s m args below meth c s.heap [] 0 0 (MQ below (jQi D (xT ca) (xC ca ad) A out.1 out.2) args s 1 4 A) (F0 m 0 ls []) := by
  have hx := S.1
  have hb := S.2.1
  unfold mH_takeOver at hf
  refine lv_aload_n (pc := 0) hx hb dH_takeOver_0 rfl (lv_at hl 0 rfl) ?_
  refine j_get (pc := 1) (v := .ref (ad 5)) S hw inH 0 0 4 xg_0 rfl (by decide) k_166 rfl dH_takeOver_1 ?_
  refine lv_aload_n (pc := 4) hx hb dH_takeOver_4 rfl (lv_at hl 0 rfl) ?_
  refine j_get (pc := 5) (v := .ref (ad 1)) S hw inH 0 0 0 xg_0 rfl (by decide) k_162 rfl dH_takeOver_5 ?_
  have hg := jbn_e hf; clear hf; obtain ⟨q1, hq1, hf⟩ := hg
  refine va_callv (pc := 8) (va_runV (As := [.ref (ad 1)]) (rest := []) S (kR_undoOpenCycles l D ca ad _ σ q1 hq1) (cwV 1 S.2.2.2.2 (jgV k_261 k_262 k_263 k_6 k_264) rfl rfl rfl (by decide +kernel) ⟨Nat.le_of_ble_eq_true rfl, Nat.le_of_ble_eq_true rfl⟩) (j_preV (As := [.ref (ad 1)]) hw xN_b (xN_to hN hw hA) rfl xg_5) rfl rfl hl.1 rfl (lv_room (Nat.le_of_ble_eq_true rfl)) dH_takeOver_8 ⟨Nat.le_of_ble_eq_true rfl, Nat.le_of_ble_eq_true rfl⟩) hw.2.2.1 (fun q _ h => j_free hw hA q h) (j_free hw hA) (fun u t H1 locs1 ht hvm hp hB hz hk hS => ?_)
  obtain rfl := hp
  obtain ⟨hP1, hK1, hD1⟩ := hB
  rw [ht] at hP1
  have hw : jH D (xT ca) (xC ca ad u) A s.heap H1 locs1 s := ⟨hP1, hD1.weaken (fun _ _ _ h => j_free hw hA _ h), hS, hw.2.2.2⟩
  refine lv_aload_n (pc := 11) hx hb dH_takeOver_11 rfl (lv_at hl 0 rfl) ?_
  refine j_get (pc := 12) (v := .ref (ad 5)) S hw inH 0 0 4 xg_0 rfl (by decide) k_166 rfl dH_takeOver_12 ?_
  refine j_get (pc := 15) (v := .int (u 100 4)) S hw inR 5 5 2 xg_5 rfl (by decide) k_151 rfl dH_takeOver_15 ?_
  obtain rfl := jsm hf
  exact j_iret (pc := 18) S hw hr hlk dH_takeOver_18
set_option maxHeartbeats 4000000 in
set_option maxRecDepth 100000 in
theorem kH_takeOver (l : Launch) (D : va_G) (ca : Nat → ClassId) (ad : Nat → Nat) (sz : Nat) (σ : JS) (out : Int32 × JS) (hf : mH_takeOver σ = some out) : Met l yH_takeOver wsH_takeOver rmH_takeOver (jPre D (xT ca) (xC ca ad σ) (xN (va_A (xC ca ad σ) sz)) sz [.ref (ad 0)]) (jQi D (xT ca) (xC ca ad) (va_A (xC ca ad σ) sz) out.1 out.2) 1 4 (va_A (xC ca ad σ) sz) := by
  refine Met.ofW (cc := cH_takeOver) (maxL := 1) (ret := some .int) (by decide) rfl ?_
  intro p e s m args below meth c s₁ B hml hv
  obtain ⟨rfl, hsz, hP, hK, hD0, hN⟩ := hv
  subst hsz
  have hl := lv_entry [.ref (ad 0)] (n := 1) (Nat.le_of_ble_eq_true rfl)
  rw [lg_entry_eq]
  generalize (lg_sl [.ref (ad 0)] ++ List.replicate (1 - (lg_sl [.ref (ad 0)]).length) Slot.unset).toArray = ls at hl ⊢
  exact bH_takeOver (fun q h => Or.inr h) ⟨B.exec, B.bytes, hml, findClass_of_methodNamed B.named, fun w h => atoms_spec (ws := wsH_takeOver) B.pre w (List.mem_cons_of_mem _ h)⟩ hN B.returns B.notSynchronized out σ ls hl ⟨hP, hD0.self, va_S.rf, hK⟩ hf
