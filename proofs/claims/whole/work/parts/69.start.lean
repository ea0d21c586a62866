theorem k_15 : (Jvm.Cond.classLink "JournalHouseLaw" (8 : Nat) "JournalHouse") ∈ jall := jall_t 15 (by decide +kernel) (by decide +kernel)
theorem k_16 : (Jvm.Cond.instantiable "JournalHouse" (12 : Nat)) ∈ jall := jall_t 16 (by decide +kernel) (by decide +kernel)
theorem k_17 : (Jvm.Cond.methodLink "JournalHouseLaw" (54 : Nat) ({ cls := "JournalHouse", name := "<init>", desc := "()V" } : Jvm.MethodName)) ∈ jall := jall_t 17 (by decide +kernel) (by decide +kernel)
theorem k_18 : (Jvm.Cond.instanceMethod ({ cls := "JournalHouse", name := "<init>", desc := "()V" } : Jvm.MethodName)) ∈ jall := jall_t 18 (by decide +kernel) (by decide +kernel)
set_option maxRecDepth 100000 in
theorem k_19 : (Jvm.Cond.code ({ cls := "JournalHouse", name := "<init>", desc := "()V" } : Jvm.MethodName) prog_1_method_1_code (1 : Nat) (Option.none : Option Jvm.ClassFile.FieldType)) ∈ jall := jall_t 19 rfl rfl
theorem k_590 : (Jvm.Cond.classLink "JournalHouseLaw" (55 : Nat) "JournalHouseModel") ∈ jall := jall_t 590 (by decide +kernel) (by decide +kernel)
theorem k_591 : (Jvm.Cond.instantiable "JournalHouseModel" (25 : Nat)) ∈ jall := jall_t 591 (by decide +kernel) (by decide +kernel)
theorem k_592 : (Jvm.Cond.methodLink "JournalHouseLaw" (57 : Nat) ({ cls := "JournalHouseModel", name := "<init>", desc := "()V" } : Jvm.MethodName)) ∈ jall := jall_t 592 (by decide +kernel) (by decide +kernel)
theorem k_593 : (Jvm.Cond.instanceMethod ({ cls := "JournalHouseModel", name := "<init>", desc := "()V" } : Jvm.MethodName)) ∈ jall := jall_t 593 (by decide +kernel) (by decide +kernel)
set_option maxRecDepth 100000 in
theorem k_594 : (Jvm.Cond.code ({ cls := "JournalHouseModel", name := "<init>", desc := "()V" } : Jvm.MethodName) prog_8_method_1_code (2 : Nat) (Option.none : Option Jvm.ClassFile.FieldType)) ∈ jall := jall_t 594 rfl rfl
theorem k_832 : (Jvm.Cond.arrayClass Jvm.ClassFile.FieldType.long) ∈ jall := jall_t 832 (by decide +kernel) (by decide +kernel)
set_option maxHeartbeats 4000000 in
set_option maxRecDepth 100000 in
/-- the law, over an invariant that every call of both keeps (open: the invariant is a hypothesis here) -/
theorem whole_start_open (I : JS → JS → Prop) (hI0 : I xσ0 mσ0) (hops : jOps I) {p : Program} {e : Env} {s : State} {m : MethodId} {below : List Frame} {meth : Method} {c : Code} (l : Launch) (hl9 : l.stackTraces = false) {b L : Nat} {xs : Nat → Int32} (hL : L ≤ 2560) (C0 : lw_At p s m meth c b L xs) : W p l e room_1 s m #[Value.ref b] below meth c s.heap [] 0 0 (lw_Z below #[Value.ref b] s) (entryFrame m ([Value.ref b] : List Value).toArray 7) := by
  obtain ⟨hx, hb, hr, hml, hown, hts, hX, hbl, hlk, hgv⟩ := C0
  have hflat := flat_of_before _ hgv
  have hN : xN (gA s) s := lw_xN hts (hflat _ (by decide +kernel)) (hflat _ (by decide +kernel))
  have hNc : va_Nc (jE 2) (jE 1) s := va_Nc.of (hflat (.not (.castable "java/lang/IllegalStateException" "java/lang/IllegalArgumentException")) (by decide +kernel))
  have htj : ∀ w ∈ jall, w.before #[Value.ref b] s = true := fun w h => hts w (List.mem_filter.mp h).1
  have S : CallFix p m c code 7 s #[Value.ref b] jall RZ := ⟨hx, hb, hml, hown, htj⟩
  obtain ⟨c0, i0, K0⟩ := u_known htj inH (htj _ k_16)
  obtain ⟨c1, i1, K1⟩ := u_known htj inJ (htj _ k_24)
  obtain ⟨c2, i2, K2⟩ := u_known htj inS (htj _ k_78)
  obtain ⟨c3, i3, K3⟩ := u_known htj inC (htj _ k_103)
  obtain ⟨c4, i4, K4⟩ := u_known htj inL (htj _ k_127)
  obtain ⟨c5, i5, K5⟩ := u_known htj inR (htj _ k_142)
  obtain ⟨c6, i6, K6⟩ := u_known htj inM (htj _ k_591)
  obtain ⟨D, hDe⟩ : ∃ D : va_G, D = (fun k => if k = 0 then c0 else if k = 1 then c1 else if k = 2 then c2 else if k = 3 then c3 else if k = 4 then c4 else if k = 5 then c5 else c6, fun k => if k = 0 then i0 else if k = 1 then i1 else if k = 2 then i2 else if k = 3 then i3 else if k = 4 then i4 else if k = 5 then i5 else i6) := ⟨_, rfl⟩
  have hK : va_K D vwCl [] s := by
    subst hDe
    refine ⟨fun k q hq => ?_, fun k q h => by cases h⟩
    match k, hq with
    | 0, hq => cases hq; exact K0
    | 1, hq => cases hq; exact K1
    | 2, hq => cases hq; exact K2
    | 3, hq => cases hq; exact K3
    | 4, hq => cases hq; exact K4
    | 5, hq => cases hq; exact K5
    | 6, hq => cases hq; exact K6
    | n + 7, hq => cases hq
  clear hDe
  have hP : va_P D vwCl [] s.heap := fun k q h => by cases h
  have hD : va_D (gA s) [] := ⟨fun i j p q h => (by cases h), fun k q h => (by cases h)⟩
  have hS : va_S (gA s) s.heap s.heap [] := va_S.rf
  have hA : ∀ q : Nat, s.heap.size ≤ q → gA s q := fun _ h => h
  have hl := lv_entry ([.ref b]) (n := 7) (Nat.le_of_ble_eq_true rfl)
  rw [lg_entry_eq]
  generalize (lg_sl ([Value.ref b]) ++ List.replicate (7 - (lg_sl ([Value.ref b])).length) Slot.unset).toArray = ls at hl ⊢
  have hl : lv_has ls 7 [(0, .ref b)] := hl
  refine va_new (pc := 0) (ci := 0) (fs := [.null, .null, .null, .null, .null, .null, .null, .null, .null, .int 0, .int 0, .int 0]) (C := RH) (T := TH) (N := 12) hx hb htj inH tyH tyH_ok hown (htj _ k_15) (htj _ k_16) (htj _ k_1) hK hP hD hS hA rfl (fun j hj => by rcases (show j = 0 ∨ j = 1 ∨ j = 2 ∨ j = 3 ∨ j = 4 ∨ j = 5 ∨ j = 6 ∨ j = 7 ∨ j = 8 ∨ j = 9 ∨ j = 10 ∨ j = 11 by omega) with rfl | rfl | rfl | rfl | rfl | rfl | rfl | rfl | rfl | rfl | rfl | rfl <;> rfl) (Nat.le_of_ble_eq_true rfl) (Nat.le_of_ble_eq_true rfl) dZ_law_0 (fun q0 H hP hD hS => ?_)
  refine lv_dup (pc := 3) hx hb dZ_law_3 rfl ?_
  have hw : jH D [] [(q0, .inr (0, [.null, .null, .null, .null, .null, .null, .null, .null, .null, .int 0, .int 0, .int 0]))] (gA s) s.heap H [] s := ⟨hP, hD, hS, hK⟩
  refine va_callv (pc := 4) (va_runI (As := []) (rest := [.ref q0]) S (kH_init l D q0 H.size) (cwI 0 htj (jgN k_19) rfl rfl rfl (htj _ k_1) (htj _ k_17) (htj _ k_18) rfl (by decide +kernel) ⟨Nat.le_of_ble_eq_true rfl, Nat.le_of_ble_eq_true rfl⟩) ⟨fun a U g mk q => by obtain ⟨g0, g1, gP, gK, gD, gN⟩ := q; exact ⟨g0, g1, gP, va_K.moved (u := U) (U := U.calling g mk a) (Vm.Alike.refl U.vm) gK, gD, xN_b U g mk a gN⟩, fun U hU hW => ⟨rfl, by rw [hU], by rw [hU]; exact hw.1, va_K.moved hW.alike hw.2.2.2, hw.2.1.weaken (fun _ _ _ _ => trivial), xN_to hN hw hA U hU hW⟩⟩ rfl rfl hl.1 rfl (lv_room (Nat.le_of_ble_eq_true rfl)) dZ_law_4 ⟨Nat.le_of_ble_eq_true rfl, Nat.le_of_ble_eq_true rfl⟩) hw.2.2.1 (fun q _ h => j_free hw hA q h) (j_free hw hA) (fun u t H1 locs ht hvm hp hB hz hk hS => ?_)
  obtain ⟨ad, ca⟩ := u
  obtain ⟨hP1, hK1, hD1⟩ := hB
  rw [ht] at hP1
  have hp : ad 0 = q0 := hp
  subst hp
  have hK : va_K D vwCl (xT ca) s := va_K.moved hvm.symm hK1
  have hD : va_D (gA s) (xC ca ad xσ0) := hD1.weaken (fun _ _ _ h => j_free hw hA _ h)
  have hP : va_P D vwCl (xC ca ad xσ0) H1 := hP1
  generalize H1 = H at hP hS ⊢
  refine lv_astore_n (pc := 7) (lv' := [(1, .ref (ad 0)), (0, .ref b)]) hx hb dZ_law_7 rfl hl (by decide) rfl (fun ls hl => ?_)
  refine va_new (pc := 8) (ci := 6) (fs := [.int 0, .int 0, .null, .null, .null, .int 0, .int 0, .int 0, .int 0, .null, .null, .null, .null, .null, .null, .null, .int 0, .null, .null, .null, .int 0, .null, .null, .int 0, .int 0]) (C := RM) (T := TM) (N := 25) hx hb htj inM tyM tyM_ok hown (htj _ k_590) (htj _ k_591) (htj _ k_7) hK hP hD hS hA rfl (fun j hj => by rcases (show j = 0 ∨ j = 1 ∨ j = 2 ∨ j = 3 ∨ j = 4 ∨ j = 5 ∨ j = 6 ∨ j = 7 ∨ j = 8 ∨ j = 9 ∨ j = 10 ∨ j = 11 ∨ j = 12 ∨ j = 13 ∨ j = 14 ∨ j = 15 ∨ j = 16 ∨ j = 17 ∨ j = 18 ∨ j = 19 ∨ j = 20 ∨ j = 21 ∨ j = 22 ∨ j = 23 ∨ j = 24 by omega) with rfl | rfl | rfl | rfl | rfl | rfl | rfl | rfl | rfl | rfl | rfl | rfl | rfl | rfl | rfl | rfl | rfl | rfl | rfl | rfl | rfl | rfl | rfl | rfl | rfl <;> rfl) (Nat.le_of_ble_eq_true rfl) (Nat.le_of_ble_eq_true rfl) dZ_law_8 (fun q1 H hP hD hS => ?_)
  refine lv_dup (pc := 11) hx hb dZ_law_11 rfl ?_
  have hw0 : jH D (xT ca) (xC ca ad xσ0 ++ [(q1, .inr (6, [.int 0, .int 0, .null, .null, .null, .int 0, .int 0, .int 0, .int 0, .null, .null, .null, .null, .null, .null, .null, .int 0, .null, .null, .null, .int 0, .null, .null, .int 0, .int 0]))]) (gA s) s.heap H locs s := ⟨hP, hD, hS, hK⟩
  have hw : jH D (xT ca) ([(q1, .inr (6, [.int 0, .int 0, .null, .null, .null, .int 0, .int 0, .int 0, .int 0, .null, .null, .null, .null, .null, .null, .null, .int 0, .null, .null, .null, .int 0, .null, .null, .int 0, .int 0]))] ++ xC ca ad xσ0) (gA s) s.heap H locs s := jH_perm hw0 List.perm_append_comm (fun _ h => h)
  have hwm : jH D [] [(q1, .inr (6, [.int 0, .int 0, .null, .null, .null, .int 0, .int 0, .int 0, .int 0, .null, .null, .null, .null, .null, .null, .null, .int 0, .null, .null, .null, .int 0, .null, .null, .int 0, .int 0]))] (gA s) s.heap H locs s := jH_left hw (fun _ h => by cases h)
  refine va_callv (pc := 12) (va_runI (As := []) (rest := [.ref q1]) S (kM_init l D q1 H.size) (cwI 0 htj (jgN k_594) rfl rfl rfl (htj _ k_7) (htj _ k_592) (htj _ k_593) rfl (by decide +kernel) ⟨Nat.le_of_ble_eq_true rfl, Nat.le_of_ble_eq_true rfl⟩) ⟨fun a U g mk q => by obtain ⟨g0, g1, gP, gK, gD⟩ := q; exact ⟨g0, g1, gP, va_K.moved (u := U) (U := U.calling g mk a) (Vm.Alike.refl U.vm) gK, gD⟩, fun U hU hW => ⟨rfl, by rw [hU], by rw [hU]; exact hwm.1, va_K.moved hW.alike hwm.2.2.2, hwm.2.1.weaken (fun _ _ _ _ => trivial)⟩⟩ rfl rfl hl.1 rfl (lv_room (Nat.le_of_ble_eq_true rfl)) dZ_law_12 ⟨Nat.le_of_ble_eq_true rfl, Nat.le_of_ble_eq_true rfl⟩) hwm.2.2.1 (fun q _ h => j_free hwm hA q h) (j_free hwm hA) (fun u t H1 locs1 ht hvm hp hB hz hk hS => ?_)
  obtain ⟨bd, cb⟩ := u
  obtain ⟨hP1, hK1, hD1⟩ := hB
  rw [ht] at hP1
  have hp : bd 0 = q1 := hp
  subst hp
  have hw2 := jH_frame hw hA hk hP1 hD1 hS
  have hw3 : jH D (xT ca) (xC ca ad xσ0 ++ mC cb bd mσ0) (gA s) s.heap H1 locs1 s := jH_perm hw2 List.perm_append_comm (fun _ h => h)
  have hK : va_K D vwCl (xT ca ++ mT cb) s := hw3.2.2.2.app (va_K.moved hvm.symm hK1)
  obtain ⟨hP, hD, hS, -⟩ := hw3
  generalize H1 = H at hP hS ⊢
  refine lv_astore_n (pc := 15) (lv' := [(2, .ref (bd 0)), (1, .ref (ad 0)), (0, .ref b)]) hx hb dZ_law_15 rfl hl (by decide) rfl (fun ls hl => ?_)
  refine lv_iconst (pc := 16) (v := (1 : Int32)) hx hb dZ_law_16 (by decide) ?_
  refine va_newa (pc := 17) (atype := .long) (ty := .long) (N' := 1) (a0 := (1, .inr (.inl (fun _ => 0)))) hx hb (htj _ k_832) rfl hK hP hD hS hA (fun _ => rfl) (by decide) (by decide) (by decide) (Nat.le_of_ble_eq_true rfl) (Nat.le_of_ble_eq_true rfl) dZ_law_17 (fun o cJ H hK hP hD hS => ?_)
  refine lv_astore_n (pc := 19) (lv' := [(3, .ref o), (2, .ref (bd 0)), (1, .ref (ad 0)), (0, .ref b)]) hx hb dZ_law_19 rfl hl (by decide) rfl (fun ls hl => ?_)
  refine lv_iconst (pc := 20) (v := (0 : Int32)) hx hb dZ_law_20 (by decide) ?_
  refine lv_istore (pc := 21) (lv' := [(4, .int (0 : Int32)), (3, .ref o), (2, .ref (bd 0)), (1, .ref (ad 0)), (0, .ref b)]) hx hb dZ_law_21 hl (by decide) rfl (fun ls hl => ?_)
  rw [List.append_assoc] at hK hP hD
  have hw : jH D (gT ca cb cJ) (gC ca ad cb bd o cJ xσ0 mσ0 (fun _ => 0)) (gA s) s.heap H locs1 s := ⟨hP, hD, hS, hK⟩
  refine W.widen (k := 100 + 0) (n := 3000 + 6 * 0) (Nat.le_of_ble_eq_true rfl) (Nat.le_of_ble_eq_true rfl) ?_
  exact lw_loop I hops hl9 S hN hNc hX hbl hL hr hlk 513 0 rfl (Nat.zero_le _) xσ0 mσ0 (fun _ => 0) ls H locs1 hI0 (lv_sub hl [4, 3, 2, 1, 0] rfl) hw
