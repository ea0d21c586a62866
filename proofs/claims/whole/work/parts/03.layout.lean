def xF_0 (ad : Nat → Nat) (σ : JS) : List Value := [.ref (ad 1), .ref (ad 2), .ref (ad 3), .ref (ad 4), .ref (ad 5), .ref (ad 26), .ref (ad 27), .ref (ad 28), .ref (ad 29), .int (σ 100 6), .int (σ 100 7), .int (σ 100 8)]
def xF_1 (ad : Nat → Nat) (σ : JS) : List Value := [.ref (ad 6), .ref (ad 7), .ref (ad 8), .ref (ad 9), .ref (ad 10), .ref (ad 11), .ref (ad 12), .ref (ad 13), .ref (ad 14), .int (σ 100 0), .int (σ 100 1)]
def xF_2 (ad : Nat → Nat) (σ : JS) : List Value := [.ref (ad 15), .ref (ad 16), .ref (ad 17), .ref (ad 18), .int (σ 100 2)]
def xF_3 (ad : Nat → Nat) (σ : JS) : List Value := [.ref (ad 19), .ref (ad 20), .ref (ad 21), .ref (ad 22)]
def xF_4 (ad : Nat → Nat) (σ : JS) : List Value := [.ref (ad 23), .int (σ 100 3)]
def xF_5 (ad : Nat → Nat) (σ : JS) : List Value := [.ref (ad 24), .ref (ad 25), .int (σ 100 4), .int (σ 100 5)]
def xC (ca : Nat → ClassId) (ad : Nat → Nat) (σ : JS) : va_W := [(ad 0, .inr (0, xF_0 ad σ)), (ad 1, .inr (1, xF_1 ad σ)), (ad 2, .inr (2, xF_2 ad σ)), (ad 3, .inr (3, xF_3 ad σ)), (ad 4, .inr (4, xF_4 ad σ)), (ad 5, .inr (5, xF_5 ad σ)), (ad 6, .inl (ca 6, 121, .inl (σ 6))), (ad 7, .inl (ca 7, 121, .inl (σ 7))), (ad 8, .inl (ca 8, 121, .inl (σ 8))), (ad 9, .inl (ca 9, 121, .inl (σ 9))), (ad 10, .inl (ca 10, 121, .inl (σ 10))), (ad 11, .inl (ca 11, 121, .inl (σ 11))), (ad 12, .inl (ca 12, 4, .inl (σ 12))), (ad 13, .inl (ca 13, 4, .inl (σ 13))), (ad 14, .inl (ca 14, 4, .inl (σ 14))), (ad 15, .inl (ca 15, 24, .inl (σ 15))), (ad 16, .inl (ca 16, 24, .inl (σ 16))), (ad 17, .inl (ca 17, 24, .inl (σ 17))), (ad 18, .inl (ca 18, 24, .inl (σ 18))), (ad 19, .inl (ca 19, 4, .inl (σ 19))), (ad 20, .inl (ca 20, 4, .inl (σ 20))), (ad 21, .inl (ca 21, 4, .inl (σ 21))), (ad 22, .inl (ca 22, 32, .inl (σ 22))), (ad 23, .inl (ca 23, 16, .inl (σ 23))), (ad 24, .inl (ca 24, 24, .inl (σ 24))), (ad 25, .inl (ca 25, 121, .inl (σ 25))), (ad 26, .inl (ca 26, 3, .inl (σ 26))), (ad 27, .inl (ca 27, 3, .inl (σ 27))), (ad 28, .inl (ca 28, 3, .inl (σ 28))), (ad 29, .inl (ca 29, 8, .inl (σ 29)))]
def xT (ca : Nat → ClassId) : List (ClassId × FieldType) := [(ca 6, .int), (ca 7, .int), (ca 8, .int), (ca 9, .int), (ca 10, .int), (ca 11, .int), (ca 12, .int), (ca 13, .int), (ca 14, .int), (ca 15, .int), (ca 16, .int), (ca 17, .int), (ca 18, .int), (ca 19, .boolean), (ca 20, .int), (ca 21, .int), (ca 22, .int), (ca 23, .int), (ca 24, .int), (ca 25, .boolean), (ca 26, .int), (ca 27, .int), (ca 28, .int), (ca 29, .int)]
theorem xg_0 {ca : Nat → ClassId} {ad : Nat → Nat} {σ : JS} : (xC ca ad σ)[0]? = some (ad 0, .inr (0, xF_0 ad σ)) := rfl
theorem xg_1 {ca : Nat → ClassId} {ad : Nat → Nat} {σ : JS} : (xC ca ad σ)[1]? = some (ad 1, .inr (1, xF_1 ad σ)) := rfl
theorem xg_2 {ca : Nat → ClassId} {ad : Nat → Nat} {σ : JS} : (xC ca ad σ)[2]? = some (ad 2, .inr (2, xF_2 ad σ)) := rfl
theorem xg_3 {ca : Nat → ClassId} {ad : Nat → Nat} {σ : JS} : (xC ca ad σ)[3]? = some (ad 3, .inr (3, xF_3 ad σ)) := rfl
theorem xg_4 {ca : Nat → ClassId} {ad : Nat → Nat} {σ : JS} : (xC ca ad σ)[4]? = some (ad 4, .inr (4, xF_4 ad σ)) := rfl
theorem xg_5 {ca : Nat → ClassId} {ad : Nat → Nat} {σ : JS} : (xC ca ad σ)[5]? = some (ad 5, .inr (5, xF_5 ad σ)) := rfl
theorem xg_6 {ca : Nat → ClassId} {ad : Nat → Nat} {σ : JS} : (xC ca ad σ)[6]? = some (ad 6, .inl (ca 6, 121, .inl (σ 6))) := rfl
theorem xt_6 {ca : Nat → ClassId} : (xT ca)[0]? = some (ca 6, .int) := rfl
theorem xs_6 {ca : Nat → ClassId} {ad : Nat → Nat} {σ : JS} {j : Nat} {v : Int32} : (xC ca ad σ).set 6 (ad 6, .inl (ca 6, 121, .inl (upd (σ 6) j v))) = xC ca ad (jw2 σ 6 j v) := rfl
theorem xa_6 {ca : Nat → ClassId} {ad : Nat → Nat} {σ : JS} {g : Nat → Int32} : (xC ca ad σ).set 6 (ad 6, .inl (ca 6, 121, .inl g)) = xC ca ad (jwA σ 6 g) := rfl
theorem xg_7 {ca : Nat → ClassId} {ad : Nat → Nat} {σ : JS} : (xC ca ad σ)[7]? = some (ad 7, .inl (ca 7, 121, .inl (σ 7))) := rfl
theorem xt_7 {ca : Nat → ClassId} : (xT ca)[1]? = some (ca 7, .int) := rfl
theorem xs_7 {ca : Nat → ClassId} {ad : Nat → Nat} {σ : JS} {j : Nat} {v : Int32} : (xC ca ad σ).set 7 (ad 7, .inl (ca 7, 121, .inl (upd (σ 7) j v))) = xC ca ad (jw2 σ 7 j v) := rfl
theorem xa_7 {ca : Nat → ClassId} {ad : Nat → Nat} {σ : JS} {g : Nat → Int32} : (xC ca ad σ).set 7 (ad 7, .inl (ca 7, 121, .inl g)) = xC ca ad (jwA σ 7 g) := rfl
theorem xg_8 {ca : Nat → ClassId} {ad : Nat → Nat} {σ : JS} : (xC ca ad σ)[8]? = some (ad 8, .inl (ca 8, 121, .inl (σ 8))) := rfl
theorem xt_8 {ca : Nat → ClassId} : (xT ca)[2]? = some (ca 8, .int) := rfl
theorem xs_8 {ca : Nat → ClassId} {ad : Nat → Nat} {σ : JS} {j : Nat} {v : Int32} : (xC ca ad σ).set 8 (ad 8, .inl (ca 8, 121, .inl (upd (σ 8) j v))) = xC ca ad (jw2 σ 8 j v) := rfl
theorem xa_8 {ca : Nat → ClassId} {ad : Nat → Nat} {σ : JS} {g : Nat → Int32} : (xC ca ad σ).set 8 (ad 8, .inl (ca 8, 121, .inl g)) = xC ca ad (jwA σ 8 g) := rfl
theorem xg_9 {ca : Nat → ClassId} {ad : Nat → Nat} {σ : JS} : (xC ca ad σ)[9]? = some (ad 9, .inl (ca 9, 121, .inl (σ 9))) := rfl
theorem xt_9 {ca : Nat → ClassId} : (xT ca)[3]? = some (ca 9, .int) := rfl
theorem xs_9 {ca : Nat → ClassId} {ad : Nat → Nat} {σ : JS} {j : Nat} {v : Int32} : (xC ca ad σ).set 9 (ad 9, .inl (ca 9, 121, .inl (upd (σ 9) j v))) = xC ca ad (jw2 σ 9 j v) := rfl
theorem xa_9 {ca : Nat → ClassId} {ad : Nat → Nat} {σ : JS} {g : Nat → Int32} : (xC ca ad σ).set 9 (ad 9, .inl (ca 9, 121, .inl g)) = xC ca ad (jwA σ 9 g) := rfl
theorem xg_10 {ca : Nat → ClassId} {ad : Nat → Nat} {σ : JS} : (xC ca ad σ)[10]? = some (ad 10, .inl (ca 10, 121, .inl (σ 10))) := rfl
theorem xt_10 {ca : Nat → ClassId} : (xT ca)[4]? = some (ca 10, .int) := rfl
theorem xs_10 {ca : Nat → ClassId} {ad : Nat → Nat} {σ : JS} {j : Nat} {v : Int32} : (xC ca ad σ).set 10 (ad 10, .inl (ca 10, 121, .inl (upd (σ 10) j v))) = xC ca ad (jw2 σ 10 j v) := rfl
theorem xa_10 {ca : Nat → ClassId} {ad : Nat → Nat} {σ : JS} {g : Nat → Int32} : (xC ca ad σ).set 10 (ad 10, .inl (ca 10, 121, .inl g)) = xC ca ad (jwA σ 10 g) := rfl
theorem xg_11 {ca : Nat → ClassId} {ad : Nat → Nat} {σ : JS} : (xC ca ad σ)[11]? = some (ad 11, .inl (ca 11, 121, .inl (σ 11))) := rfl
theorem xt_11 {ca : Nat → ClassId} : (xT ca)[5]? = some (ca 11, .int) := rfl
theorem xs_11 {ca : Nat → ClassId} {ad : Nat → Nat} {σ : JS} {j : Nat} {v : Int32} : (xC ca ad σ).set 11 (ad 11, .inl (ca 11, 121, .inl (upd (σ 11) j v))) = xC ca ad (jw2 σ 11 j v) := rfl
theorem xa_11 {ca : Nat → ClassId} {ad : Nat → Nat} {σ : JS} {g : Nat → Int32} : (xC ca ad σ).set 11 (ad 11, .inl (ca 11, 121, .inl g)) = xC ca ad (jwA σ 11 g) := rfl
theorem xg_12 {ca : Nat → ClassId} {ad : Nat → Nat} {σ : JS} : (xC ca ad σ)[12]? = some (ad 12, .inl (ca 12, 4, .inl (σ 12))) := rfl
theorem xt_12 {ca : Nat → ClassId} : (xT ca)[6]? = some (ca 12, .int) := rfl
theorem xs_12 {ca : Nat → ClassId} {ad : Nat → Nat} {σ : JS} {j : Nat} {v : Int32} : (xC ca ad σ).set 12 (ad 12, .inl (ca 12, 4, .inl (upd (σ 12) j v))) = xC ca ad (jw2 σ 12 j v) := rfl
theorem xa_12 {ca : Nat → ClassId} {ad : Nat → Nat} {σ : JS} {g : Nat → Int32} : (xC ca ad σ).set 12 (ad 12, .inl (ca 12, 4, .inl g)) = xC ca ad (jwA σ 12 g) := rfl
theorem xg_13 {ca : Nat → ClassId} {ad : Nat → Nat} {σ : JS} : (xC ca ad σ)[13]? = some (ad 13, .inl (ca 13, 4, .inl (σ 13))) := rfl
theorem xt_13 {ca : Nat → ClassId} : (xT ca)[7]? = some (ca 13, .int) := rfl
theorem xs_13 {ca : Nat → ClassId} {ad : Nat → Nat} {σ : JS} {j : Nat} {v : Int32} : (xC ca ad σ).set 13 (ad 13, .inl (ca 13, 4, .inl (upd (σ 13) j v))) = xC ca ad (jw2 σ 13 j v) := rfl
theorem xa_13 {ca : Nat → ClassId} {ad : Nat → Nat} {σ : JS} {g : Nat → Int32} : (xC ca ad σ).set 13 (ad 13, .inl (ca 13, 4, .inl g)) = xC ca ad (jwA σ 13 g) := rfl
theorem xg_14 {ca : Nat → ClassId} {ad : Nat → Nat} {σ : JS} : (xC ca ad σ)[14]? = some (ad 14, .inl (ca 14, 4, .inl (σ 14))) := rfl
theorem xt_14 {ca : Nat → ClassId} : (xT ca)[8]? = some (ca 14, .int) := rfl
theorem xs_14 {ca : Nat → ClassId} {ad : Nat → Nat} {σ : JS} {j : Nat} {v : Int32} : (xC ca ad σ).set 14 (ad 14, .inl (ca 14, 4, .inl (upd (σ 14) j v))) = xC ca ad (jw2 σ 14 j v) := rfl
theorem xa_14 {ca : Nat → ClassId} {ad : Nat → Nat} {σ : JS} {g : Nat → Int32} : (xC ca ad σ).set 14 (ad 14, .inl (ca 14, 4, .inl g)) = xC ca ad (jwA σ 14 g) := rfl
theorem xg_15 {ca : Nat → ClassId} {ad : Nat → Nat} {σ : JS} : (xC ca ad σ)[15]? = some (ad 15, .inl (ca 15, 24, .inl (σ 15))) := rfl
theorem xt_15 {ca : Nat → ClassId} : (xT ca)[9]? = some (ca 15, .int) := rfl
theorem xs_15 {ca : Nat → ClassId} {ad : Nat → Nat} {σ : JS} {j : Nat} {v : Int32} : (xC ca ad σ).set 15 (ad 15, .inl (ca 15, 24, .inl (upd (σ 15) j v))) = xC ca ad (jw2 σ 15 j v) := rfl
theorem xa_15 {ca : Nat → ClassId} {ad : Nat → Nat} {σ : JS} {g : Nat → Int32} : (xC ca ad σ).set 15 (ad 15, .inl (ca 15, 24, .inl g)) = xC ca ad (jwA σ 15 g) := rfl
theorem xg_16 {ca : Nat → ClassId} {ad : Nat → Nat} {σ : JS} : (xC ca ad σ)[16]? = some (ad 16, .inl (ca 16, 24, .inl (σ 16))) := rfl
theorem xt_16 {ca : Nat → ClassId} : (xT ca)[10]? = some (ca 16, .int) := rfl
theorem xs_16 {ca : Nat → ClassId} {ad : Nat → Nat} {σ : JS} {j : Nat} {v : Int32} : (xC ca ad σ).set 16 (ad 16, .inl (ca 16, 24, .inl (upd (σ 16) j v))) = xC ca ad (jw2 σ 16 j v) := rfl
theorem xa_16 {ca : Nat → ClassId} {ad : Nat → Nat} {σ : JS} {g : Nat → Int32} : (xC ca ad σ).set 16 (ad 16, .inl (ca 16, 24, .inl g)) = xC ca ad (jwA σ 16 g) := rfl
theorem xg_17 {ca : Nat → ClassId} {ad : Nat → Nat} {σ : JS} : (xC ca ad σ)[17]? = some (ad 17, .inl (ca 17, 24, .inl (σ 17))) := rfl
theorem xt_17 {ca : Nat → ClassId} : (xT ca)[11]? = some (ca 17, .int) := rfl
theorem xs_17 {ca : Nat → ClassId} {ad : Nat → Nat} {σ : JS} {j : Nat} {v : Int32} : (xC ca ad σ).set 17 (ad 17, .inl (ca 17, 24, .inl (upd (σ 17) j v))) = xC ca ad (jw2 σ 17 j v) := rfl
theorem xa_17 {ca : Nat → ClassId} {ad : Nat → Nat} {σ : JS} {g : Nat → Int32} : (xC ca ad σ).set 17 (ad 17, .inl (ca 17, 24, .inl g)) = xC ca ad (jwA σ 17 g) := rfl
theorem xg_18 {ca : Nat → ClassId} {ad : Nat → Nat} {σ : JS} : (xC ca ad σ)[18]? = some (ad 18, .inl (ca 18, 24, .inl (σ 18))) := rfl
theorem xt_18 {ca : Nat → ClassId} : (xT ca)[12]? = some (ca 18, .int) := rfl
theorem xs_18 {ca : Nat → ClassId} {ad : Nat → Nat} {σ : JS} {j : Nat} {v : Int32} : (xC ca ad σ).set 18 (ad 18, .inl (ca 18, 24, .inl (upd (σ 18) j v))) = xC ca ad (jw2 σ 18 j v) := rfl
theorem xa_18 {ca : Nat → ClassId} {ad : Nat → Nat} {σ : JS} {g : Nat → Int32} : (xC ca ad σ).set 18 (ad 18, .inl (ca 18, 24, .inl g)) = xC ca ad (jwA σ 18 g) := rfl
theorem xg_19 {ca : Nat → ClassId} {ad : Nat → Nat} {σ : JS} : (xC ca ad σ)[19]? = some (ad 19, .inl (ca 19, 4, .inl (σ 19))) := rfl
theorem xt_19 {ca : Nat → ClassId} : (xT ca)[13]? = some (ca 19, .boolean) := rfl
theorem xs_19 {ca : Nat → ClassId} {ad : Nat → Nat} {σ : JS} {j : Nat} {v : Int32} : (xC ca ad σ).set 19 (ad 19, .inl (ca 19, 4, .inl (upd (σ 19) j v))) = xC ca ad (jw2 σ 19 j v) := rfl
theorem xa_19 {ca : Nat → ClassId} {ad : Nat → Nat} {σ : JS} {g : Nat → Int32} : (xC ca ad σ).set 19 (ad 19, .inl (ca 19, 4, .inl g)) = xC ca ad (jwA σ 19 g) := rfl
theorem xg_20 {ca : Nat → ClassId} {ad : Nat → Nat} {σ : JS} : (xC ca ad σ)[20]? = some (ad 20, .inl (ca 20, 4, .inl (σ 20))) := rfl
theorem xt_20 {ca : Nat → ClassId} : (xT ca)[14]? = some (ca 20, .int) := rfl
theorem xs_20 {ca : Nat → ClassId} {ad : Nat → Nat} {σ : JS} {j : Nat} {v : Int32} : (xC ca ad σ).set 20 (ad 20, .inl (ca 20, 4, .inl (upd (σ 20) j v))) = xC ca ad (jw2 σ 20 j v) := rfl
theorem xa_20 {ca : Nat → ClassId} {ad : Nat → Nat} {σ : JS} {g : Nat → Int32} : (xC ca ad σ).set 20 (ad 20, .inl (ca 20, 4, .inl g)) = xC ca ad (jwA σ 20 g) := rfl
theorem xg_21 {ca : Nat → ClassId} {ad : Nat → Nat} {σ : JS} : (xC ca ad σ)[21]? = some (ad 21, .inl (ca 21, 4, .inl (σ 21))) := rfl
theorem xt_21 {ca : Nat → ClassId} : (xT ca)[15]? = some (ca 21, .int) := rfl
theorem xs_21 {ca : Nat → ClassId} {ad : Nat → Nat} {σ : JS} {j : Nat} {v : Int32} : (xC ca ad σ).set 21 (ad 21, .inl (ca 21, 4, .inl (upd (σ 21) j v))) = xC ca ad (jw2 σ 21 j v) := rfl
theorem xa_21 {ca : Nat → ClassId} {ad : Nat → Nat} {σ : JS} {g : Nat → Int32} : (xC ca ad σ).set 21 (ad 21, .inl (ca 21, 4, .inl g)) = xC ca ad (jwA σ 21 g) := rfl
theorem xg_22 {ca : Nat → ClassId} {ad : Nat → Nat} {σ : JS} : (xC ca ad σ)[22]? = some (ad 22, .inl (ca 22, 32, .inl (σ 22))) := rfl
theorem xt_22 {ca : Nat → ClassId} : (xT ca)[16]? = some (ca 22, .int) := rfl
theorem xs_22 {ca : Nat → ClassId} {ad : Nat → Nat} {σ : JS} {j : Nat} {v : Int32} : (xC ca ad σ).set 22 (ad 22, .inl (ca 22, 32, .inl (upd (σ 22) j v))) = xC ca ad (jw2 σ 22 j v) := rfl
theorem xa_22 {ca : Nat → ClassId} {ad : Nat → Nat} {σ : JS} {g : Nat → Int32} : (xC ca ad σ).set 22 (ad 22, .inl (ca 22, 32, .inl g)) = xC ca ad (jwA σ 22 g) := rfl
theorem xg_23 {ca : Nat → ClassId} {ad : Nat → Nat} {σ : JS} : (xC ca ad σ)[23]? = some (ad 23, .inl (ca 23, 16, .inl (σ 23))) := rfl
theorem xt_23 {ca : Nat → ClassId} : (xT ca)[17]? = some (ca 23, .int) := rfl
theorem xs_23 {ca : Nat → ClassId} {ad : Nat → Nat} {σ : JS} {j : Nat} {v : Int32} : (xC ca ad σ).set 23 (ad 23, .inl (ca 23, 16, .inl (upd (σ 23) j v))) = xC ca ad (jw2 σ 23 j v) := rfl
theorem xa_23 {ca : Nat → ClassId} {ad : Nat → Nat} {σ : JS} {g : Nat → Int32} : (xC ca ad σ).set 23 (ad 23, .inl (ca 23, 16, .inl g)) = xC ca ad (jwA σ 23 g) := rfl
theorem xg_24 {ca : Nat → ClassId} {ad : Nat → Nat} {σ : JS} : (xC ca ad σ)[24]? = some (ad 24, .inl (ca 24, 24, .inl (σ 24))) := rfl
theorem xt_24 {ca : Nat → ClassId} : (xT ca)[18]? = some (ca 24, .int) := rfl
theorem xs_24 {ca : Nat → ClassId} {ad : Nat → Nat} {σ : JS} {j : Nat} {v : Int32} : (xC ca ad σ).set 24 (ad 24, .inl (ca 24, 24, .inl (upd (σ 24) j v))) = xC ca ad (jw2 σ 24 j v) := rfl
theorem xa_24 {ca : Nat → ClassId} {ad : Nat → Nat} {σ : JS} {g : Nat → Int32} : (xC ca ad σ).set 24 (ad 24, .inl (ca 24, 24, .inl g)) = xC ca ad (jwA σ 24 g) := rfl
theorem xg_25 {ca : Nat → ClassId} {ad : Nat → Nat} {σ : JS} : (xC ca ad σ)[25]? = some (ad 25, .inl (ca 25, 121, .inl (σ 25))) := rfl
theorem xt_25 {ca : Nat → ClassId} : (xT ca)[19]? = some (ca 25, .boolean) := rfl
theorem xs_25 {ca : Nat → ClassId} {ad : Nat → Nat} {σ : JS} {j : Nat} {v : Int32} : (xC ca ad σ).set 25 (ad 25, .inl (ca 25, 121, .inl (upd (σ 25) j v))) = xC ca ad (jw2 σ 25 j v) := rfl
theorem xa_25 {ca : Nat → ClassId} {ad : Nat → Nat} {σ : JS} {g : Nat → Int32} : (xC ca ad σ).set 25 (ad 25, .inl (ca 25, 121, .inl g)) = xC ca ad (jwA σ 25 g) := rfl
theorem xg_26 {ca : Nat → ClassId} {ad : Nat → Nat} {σ : JS} : (xC ca ad σ)[26]? = some (ad 26, .inl (ca 26, 3, .inl (σ 26))) := rfl
theorem xt_26 {ca : Nat → ClassId} : (xT ca)[20]? = some (ca 26, .int) := rfl
theorem xs_26 {ca : Nat → ClassId} {ad : Nat → Nat} {σ : JS} {j : Nat} {v : Int32} : (xC ca ad σ).set 26 (ad 26, .inl (ca 26, 3, .inl (upd (σ 26) j v))) = xC ca ad (jw2 σ 26 j v) := rfl
theorem xa_26 {ca : Nat → ClassId} {ad : Nat → Nat} {σ : JS} {g : Nat → Int32} : (xC ca ad σ).set 26 (ad 26, .inl (ca 26, 3, .inl g)) = xC ca ad (jwA σ 26 g) := rfl
theorem xg_27 {ca : Nat → ClassId} {ad : Nat → Nat} {σ : JS} : (xC ca ad σ)[27]? = some (ad 27, .inl (ca 27, 3, .inl (σ 27))) := rfl
theorem xt_27 {ca : Nat → ClassId} : (xT ca)[21]? = some (ca 27, .int) := rfl
theorem xs_27 {ca : Nat → ClassId} {ad : Nat → Nat} {σ : JS} {j : Nat} {v : Int32} : (xC ca ad σ).set 27 (ad 27, .inl (ca 27, 3, .inl (upd (σ 27) j v))) = xC ca ad (jw2 σ 27 j v) := rfl
theorem xa_27 {ca : Nat → ClassId} {ad : Nat → Nat} {σ : JS} {g : Nat → Int32} : (xC ca ad σ).set 27 (ad 27, .inl (ca 27, 3, .inl g)) = xC ca ad (jwA σ 27 g) := rfl
theorem xg_28 {ca : Nat → ClassId} {ad : Nat → Nat} {σ : JS} : (xC ca ad σ)[28]? = some (ad 28, .inl (ca 28, 3, .inl (σ 28))) := rfl
theorem xt_28 {ca : Nat → ClassId} : (xT ca)[22]? = some (ca 28, .int) := rfl
theorem xs_28 {ca : Nat → ClassId} {ad : Nat → Nat} {σ : JS} {j : Nat} {v : Int32} : (xC ca ad σ).set 28 (ad 28, .inl (ca 28, 3, .inl (upd (σ 28) j v))) = xC ca ad (jw2 σ 28 j v) := rfl
theorem xa_28 {ca : Nat → ClassId} {ad : Nat → Nat} {σ : JS} {g : Nat → Int32} : (xC ca ad σ).set 28 (ad 28, .inl (ca 28, 3, .inl g)) = xC ca ad (jwA σ 28 g) := rfl
theorem xg_29 {ca : Nat → ClassId} {ad : Nat → Nat} {σ : JS} : (xC ca ad σ)[29]? = some (ad 29, .inl (ca 29, 8, .inl (σ 29))) := rfl
theorem xt_29 {ca : Nat → ClassId} : (xT ca)[23]? = some (ca 29, .int) := rfl
theorem xs_29 {ca : Nat → ClassId} {ad : Nat → Nat} {σ : JS} {j : Nat} {v : Int32} : (xC ca ad σ).set 29 (ad 29, .inl (ca 29, 8, .inl (upd (σ 29) j v))) = xC ca ad (jw2 σ 29 j v) := rfl
theorem xa_29 {ca : Nat → ClassId} {ad : Nat → Nat} {σ : JS} {g : Nat → Int32} : (xC ca ad σ).set 29 (ad 29, .inl (ca 29, 8, .inl g)) = xC ca ad (jwA σ 29 g) := rfl
theorem xp_0 {ca : Nat → ClassId} {ad : Nat → Nat} {σ : JS} {v : Int32} : (xC ca ad σ).set 1 (ad 1, .inr (1, (xF_1 ad σ).set 9 (.int v))) = xC ca ad (jw2 σ 100 0 v) := rfl
theorem xp_1 {ca : Nat → ClassId} {ad : Nat → Nat} {σ : JS} {v : Int32} : (xC ca ad σ).set 1 (ad 1, .inr (1, (xF_1 ad σ).set 10 (.int v))) = xC ca ad (jw2 σ 100 1 v) := rfl
theorem xp_2 {ca : Nat → ClassId} {ad : Nat → Nat} {σ : JS} {v : Int32} : (xC ca ad σ).set 2 (ad 2, .inr (2, (xF_2 ad σ).set 4 (.int v))) = xC ca ad (jw2 σ 100 2 v) := rfl
theorem xp_3 {ca : Nat → ClassId} {ad : Nat → Nat} {σ : JS} {v : Int32} : (xC ca ad σ).set 4 (ad 4, .inr (4, (xF_4 ad σ).set 1 (.int v))) = xC ca ad (jw2 σ 100 3 v) := rfl
theorem xp_4 {ca : Nat → ClassId} {ad : Nat → Nat} {σ : JS} {v : Int32} : (xC ca ad σ).set 5 (ad 5, .inr (5, (xF_5 ad σ).set 2 (.int v))) = xC ca ad (jw2 σ 100 4 v) := rfl
theorem xp_5 {ca : Nat → ClassId} {ad : Nat → Nat} {σ : JS} {v : Int32} : (xC ca ad σ).set 5 (ad 5, .inr (5, (xF_5 ad σ).set 3 (.int v))) = xC ca ad (jw2 σ 100 5 v) := rfl
theorem xp_6 {ca : Nat → ClassId} {ad : Nat → Nat} {σ : JS} {v : Int32} : (xC ca ad σ).set 0 (ad 0, .inr (0, (xF_0 ad σ).set 9 (.int v))) = xC ca ad (jw2 σ 100 6 v) := rfl
theorem xp_7 {ca : Nat → ClassId} {ad : Nat → Nat} {σ : JS} {v : Int32} : (xC ca ad σ).set 0 (ad 0, .inr (0, (xF_0 ad σ).set 10 (.int v))) = xC ca ad (jw2 σ 100 7 v) := rfl
theorem xp_8 {ca : Nat → ClassId} {ad : Nat → Nat} {σ : JS} {v : Int32} : (xC ca ad σ).set 0 (ad 0, .inr (0, (xF_0 ad σ).set 11 (.int v))) = xC ca ad (jw2 σ 100 8 v) := rfl
def mF_0 (ad : Nat → Nat) (σ : JS) : List Value := [.int (σ 100 0), .int (σ 100 1), .ref (ad 1), .ref (ad 2), .ref (ad 3), .int (σ 100 2), .int (σ 100 3), .int (σ 100 4), .int (σ 100 5), .ref (ad 4), .ref (ad 5), .ref (ad 6), .ref (ad 7), .ref (ad 8), .ref (ad 9), .ref (ad 10), .int (σ 100 6), .ref (ad 11), .ref (ad 12), .ref (ad 13), .int (σ 100 7), .ref (ad 14), .ref (ad 15), .int (σ 100 8), .int (σ 100 9)]
def mC (ca : Nat → ClassId) (ad : Nat → Nat) (σ : JS) : va_W := [(ad 0, .inr (6, mF_0 ad σ)), (ad 1, .inl (ca 1, 3, .inl (σ 1))), (ad 2, .inl (ca 2, 3, .inl (σ 2))), (ad 3, .inl (ca 3, 3, .inl (σ 3))), (ad 4, .inl (ca 4, 121, .inl (σ 4))), (ad 5, .inl (ca 5, 121, .inl (σ 5))), (ad 6, .inl (ca 6, 121, .inl (σ 6))), (ad 7, .inl (ca 7, 121, .inl (σ 7))), (ad 8, .inl (ca 8, 121, .inl (σ 8))), (ad 9, .inl (ca 9, 121, .inl (σ 9))), (ad 10, .inl (ca 10, 24, .inl (σ 10))), (ad 11, .inl (ca 11, 24, .inl (σ 11))), (ad 12, .inl (ca 12, 4, .inl (σ 12))), (ad 13, .inl (ca 13, 4, .inl (σ 13))), (ad 14, .inl (ca 14, 17, .inl (σ 14))), (ad 15, .inl (ca 15, 122, .inl (σ 15)))]
def mT (ca : Nat → ClassId) : List (ClassId × FieldType) := [(ca 1, .int), (ca 2, .int), (ca 3, .int), (ca 4, .int), (ca 5, .int), (ca 6, .int), (ca 7, .int), (ca 8, .int), (ca 9, .int), (ca 10, .int), (ca 11, .int), (ca 12, .int), (ca 13, .int), (ca 14, .int), (ca 15, .boolean)]
theorem mg_0 {ca : Nat → ClassId} {ad : Nat → Nat} {σ : JS} : (mC ca ad σ)[0]? = some (ad 0, .inr (6, mF_0 ad σ)) := rfl
theorem mg_1 {ca : Nat → ClassId} {ad : Nat → Nat} {σ : JS} : (mC ca ad σ)[1]? = some (ad 1, .inl (ca 1, 3, .inl (σ 1))) := rfl
theorem mt_1 {ca : Nat → ClassId} : (mT ca)[0]? = some (ca 1, .int) := rfl
theorem ms_1 {ca : Nat → ClassId} {ad : Nat → Nat} {σ : JS} {j : Nat} {v : Int32} : (mC ca ad σ).set 1 (ad 1, .inl (ca 1, 3, .inl (upd (σ 1) j v))) = mC ca ad (jw2 σ 1 j v) := rfl
theorem ma_1 {ca : Nat → ClassId} {ad : Nat → Nat} {σ : JS} {g : Nat → Int32} : (mC ca ad σ).set 1 (ad 1, .inl (ca 1, 3, .inl g)) = mC ca ad (jwA σ 1 g) := rfl
theorem mg_2 {ca : Nat → ClassId} {ad : Nat → Nat} {σ : JS} : (mC ca ad σ)[2]? = some (ad 2, .inl (ca 2, 3, .inl (σ 2))) := rfl
theorem mt_2 {ca : Nat → ClassId} : (mT ca)[1]? = some (ca 2, .int) := rfl
theorem ms_2 {ca : Nat → ClassId} {ad : Nat → Nat} {σ : JS} {j : Nat} {v : Int32} : (mC ca ad σ).set 2 (ad 2, .inl (ca 2, 3, .inl (upd (σ 2) j v))) = mC ca ad (jw2 σ 2 j v) := rfl
theorem ma_2 {ca : Nat → ClassId} {ad : Nat → Nat} {σ : JS} {g : Nat → Int32} : (mC ca ad σ).set 2 (ad 2, .inl (ca 2, 3, .inl g)) = mC ca ad (jwA σ 2 g) := rfl
theorem mg_3 {ca : Nat → ClassId} {ad : Nat → Nat} {σ : JS} : (mC ca ad σ)[3]? = some (ad 3, .inl (ca 3, 3, .inl (σ 3))) := rfl
theorem mt_3 {ca : Nat → ClassId} : (mT ca)[2]? = some (ca 3, .int) := rfl
theorem ms_3 {ca : Nat → ClassId} {ad : Nat → Nat} {σ : JS} {j : Nat} {v : Int32} : (mC ca ad σ).set 3 (ad 3, .inl (ca 3, 3, .inl (upd (σ 3) j v))) = mC ca ad (jw2 σ 3 j v) := rfl
theorem ma_3 {ca : Nat → ClassId} {ad : Nat → Nat} {σ : JS} {g : Nat → Int32} : (mC ca ad σ).set 3 (ad 3, .inl (ca 3, 3, .inl g)) = mC ca ad (jwA σ 3 g) := rfl
theorem mg_4 {ca : Nat → ClassId} {ad : Nat → Nat} {σ : JS} : (mC ca ad σ)[4]? = some (ad 4, .inl (ca 4, 121, .inl (σ 4))) := rfl
theorem mt_4 {ca : Nat → ClassId} : (mT ca)[3]? = some (ca 4, .int) := rfl
theorem ms_4 {ca : Nat → ClassId} {ad : Nat → Nat} {σ : JS} {j : Nat} {v : Int32} : (mC ca ad σ).set 4 (ad 4, .inl (ca 4, 121, .inl (upd (σ 4) j v))) = mC ca ad (jw2 σ 4 j v) := rfl
theorem ma_4 {ca : Nat → ClassId} {ad : Nat → Nat} {σ : JS} {g : Nat → Int32} : (mC ca ad σ).set 4 (ad 4, .inl (ca 4, 121, .inl g)) = mC ca ad (jwA σ 4 g) := rfl
theorem mg_5 {ca : Nat → ClassId} {ad : Nat → Nat} {σ : JS} : (mC ca ad σ)[5]? = some (ad 5, .inl (ca 5, 121, .inl (σ 5))) := rfl
theorem mt_5 {ca : Nat → ClassId} : (mT ca)[4]? = some (ca 5, .int) := rfl
theorem ms_5 {ca : Nat → ClassId} {ad : Nat → Nat} {σ : JS} {j : Nat} {v : Int32} : (mC ca ad σ).set 5 (ad 5, .inl (ca 5, 121, .inl (upd (σ 5) j v))) = mC ca ad (jw2 σ 5 j v) := rfl
theorem ma_5 {ca : Nat → ClassId} {ad : Nat → Nat} {σ : JS} {g : Nat → Int32} : (mC ca ad σ).set 5 (ad 5, .inl (ca 5, 121, .inl g)) = mC ca ad (jwA σ 5 g) := rfl
theorem mg_6 {ca : Nat → ClassId} {ad : Nat → Nat} {σ : JS} : (mC ca ad σ)[6]? = some (ad 6, .inl (ca 6, 121, .inl (σ 6))) := rfl
theorem mt_6 {ca : Nat → ClassId} : (mT ca)[5]? = some (ca 6, .int) := rfl
theorem ms_6 {ca : Nat → ClassId} {ad : Nat → Nat} {σ : JS} {j : Nat} {v : Int32} : (mC ca ad σ).set 6 (ad 6, .inl (ca 6, 121, .inl (upd (σ 6) j v))) = mC ca ad (jw2 σ 6 j v) := rfl
theorem ma_6 {ca : Nat → ClassId} {ad : Nat → Nat} {σ : JS} {g : Nat → Int32} : (mC ca ad σ).set 6 (ad 6, .inl (ca 6, 121, .inl g)) = mC ca ad (jwA σ 6 g) := rfl
theorem mg_7 {ca : Nat → ClassId} {ad : Nat → Nat} {σ : JS} : (mC ca ad σ)[7]? = some (ad 7, .inl (ca 7, 121, .inl (σ 7))) := rfl
theorem mt_7 {ca : Nat → ClassId} : (mT ca)[6]? = some (ca 7, .int) := rfl
theorem ms_7 {ca : Nat → ClassId} {ad : Nat → Nat} {σ : JS} {j : Nat} {v : Int32} : (mC ca ad σ).set 7 (ad 7, .inl (ca 7, 121, .inl (upd (σ 7) j v))) = mC ca ad (jw2 σ 7 j v) := rfl
theorem ma_7 {ca : Nat → ClassId} {ad : Nat → Nat} {σ : JS} {g : Nat → Int32} : (mC ca ad σ).set 7 (ad 7, .inl (ca 7, 121, .inl g)) = mC ca ad (jwA σ 7 g) := rfl
theorem mg_8 {ca : Nat → ClassId} {ad : Nat → Nat} {σ : JS} : (mC ca ad σ)[8]? = some (ad 8, .inl (ca 8, 121, .inl (σ 8))) := rfl
theorem mt_8 {ca : Nat → ClassId} : (mT ca)[7]? = some (ca 8, .int) := rfl
theorem ms_8 {ca : Nat → ClassId} {ad : Nat → Nat} {σ : JS} {j : Nat} {v : Int32} : (mC ca ad σ).set 8 (ad 8, .inl (ca 8, 121, .inl (upd (σ 8) j v))) = mC ca ad (jw2 σ 8 j v) := rfl
theorem ma_8 {ca : Nat → ClassId} {ad : Nat → Nat} {σ : JS} {g : Nat → Int32} : (mC ca ad σ).set 8 (ad 8, .inl (ca 8, 121, .inl g)) = mC ca ad (jwA σ 8 g) := rfl
theorem mg_9 {ca : Nat → ClassId} {ad : Nat → Nat} {σ : JS} : (mC ca ad σ)[9]? = some (ad 9, .inl (ca 9, 121, .inl (σ 9))) := rfl
theorem mt_9 {ca : Nat → ClassId} : (mT ca)[8]? = some (ca 9, .int) := rfl
theorem ms_9 {ca : Nat → ClassId} {ad : Nat → Nat} {σ : JS} {j : Nat} {v : Int32} : (mC ca ad σ).set 9 (ad 9, .inl (ca 9, 121, .inl (upd (σ 9) j v))) = mC ca ad (jw2 σ 9 j v) := rfl
theorem ma_9 {ca : Nat → ClassId} {ad : Nat → Nat} {σ : JS} {g : Nat → Int32} : (mC ca ad σ).set 9 (ad 9, .inl (ca 9, 121, .inl g)) = mC ca ad (jwA σ 9 g) := rfl
theorem mg_10 {ca : Nat → ClassId} {ad : Nat → Nat} {σ : JS} : (mC ca ad σ)[10]? = some (ad 10, .inl (ca 10, 24, .inl (σ 10))) := rfl
theorem mt_10 {ca : Nat → ClassId} : (mT ca)[9]? = some (ca 10, .int) := rfl
theorem ms_10 {ca : Nat → ClassId} {ad : Nat → Nat} {σ : JS} {j : Nat} {v : Int32} : (mC ca ad σ).set 10 (ad 10, .inl (ca 10, 24, .inl (upd (σ 10) j v))) = mC ca ad (jw2 σ 10 j v) := rfl
theorem ma_10 {ca : Nat → ClassId} {ad : Nat → Nat} {σ : JS} {g : Nat → Int32} : (mC ca ad σ).set 10 (ad 10, .inl (ca 10, 24, .inl g)) = mC ca ad (jwA σ 10 g) := rfl
theorem mg_11 {ca : Nat → ClassId} {ad : Nat → Nat} {σ : JS} : (mC ca ad σ)[11]? = some (ad 11, .inl (ca 11, 24, .inl (σ 11))) := rfl
theorem mt_11 {ca : Nat → ClassId} : (mT ca)[10]? = some (ca 11, .int) := rfl
theorem ms_11 {ca : Nat → ClassId} {ad : Nat → Nat} {σ : JS} {j : Nat} {v : Int32} : (mC ca ad σ).set 11 (ad 11, .inl (ca 11, 24, .inl (upd (σ 11) j v))) = mC ca ad (jw2 σ 11 j v) := rfl
theorem ma_11 {ca : Nat → ClassId} {ad : Nat → Nat} {σ : JS} {g : Nat → Int32} : (mC ca ad σ).set 11 (ad 11, .inl (ca 11, 24, .inl g)) = mC ca ad (jwA σ 11 g) := rfl
theorem mg_12 {ca : Nat → ClassId} {ad : Nat → Nat} {σ : JS} : (mC ca ad σ)[12]? = some (ad 12, .inl (ca 12, 4, .inl (σ 12))) := rfl
theorem mt_12 {ca : Nat → ClassId} : (mT ca)[11]? = some (ca 12, .int) := rfl
theorem ms_12 {ca : Nat → ClassId} {ad : Nat → Nat} {σ : JS} {j : Nat} {v : Int32} : (mC ca ad σ).set 12 (ad 12, .inl (ca 12, 4, .inl (upd (σ 12) j v))) = mC ca ad (jw2 σ 12 j v) := rfl
theorem ma_12 {ca : Nat → ClassId} {ad : Nat → Nat} {σ : JS} {g : Nat → Int32} : (mC ca ad σ).set 12 (ad 12, .inl (ca 12, 4, .inl g)) = mC ca ad (jwA σ 12 g) := rfl
theorem mg_13 {ca : Nat → ClassId} {ad : Nat → Nat} {σ : JS} : (mC ca ad σ)[13]? = some (ad 13, .inl (ca 13, 4, .inl (σ 13))) := rfl
theorem mt_13 {ca : Nat → ClassId} : (mT ca)[12]? = some (ca 13, .int) := rfl
theorem ms_13 {ca : Nat → ClassId} {ad : Nat → Nat} {σ : JS} {j : Nat} {v : Int32} : (mC ca ad σ).set 13 (ad 13, .inl (ca 13, 4, .inl (upd (σ 13) j v))) = mC ca ad (jw2 σ 13 j v) := rfl
theorem ma_13 {ca : Nat → ClassId} {ad : Nat → Nat} {σ : JS} {g : Nat → Int32} : (mC ca ad σ).set 13 (ad 13, .inl (ca 13, 4, .inl g)) = mC ca ad (jwA σ 13 g) := rfl
theorem mg_14 {ca : Nat → ClassId} {ad : Nat → Nat} {σ : JS} : (mC ca ad σ)[14]? = some (ad 14, .inl (ca 14, 17, .inl (σ 14))) := rfl
theorem mt_14 {ca : Nat → ClassId} : (mT ca)[13]? = some (ca 14, .int) := rfl
theorem ms_14 {ca : Nat → ClassId} {ad : Nat → Nat} {σ : JS} {j : Nat} {v : Int32} : (mC ca ad σ).set 14 (ad 14, .inl (ca 14, 17, .inl (upd (σ 14) j v))) = mC ca ad (jw2 σ 14 j v) := rfl
theorem ma_14 {ca : Nat → ClassId} {ad : Nat → Nat} {σ : JS} {g : Nat → Int32} : (mC ca ad σ).set 14 (ad 14, .inl (ca 14, 17, .inl g)) = mC ca ad (jwA σ 14 g) := rfl
theorem mg_15 {ca : Nat → ClassId} {ad : Nat → Nat} {σ : JS} : (mC ca ad σ)[15]? = some (ad 15, .inl (ca 15, 122, .inl (σ 15))) := rfl
theorem mt_15 {ca : Nat → ClassId} : (mT ca)[14]? = some (ca 15, .boolean) := rfl
theorem ms_15 {ca : Nat → ClassId} {ad : Nat → Nat} {σ : JS} {j : Nat} {v : Int32} : (mC ca ad σ).set 15 (ad 15, .inl (ca 15, 122, .inl (upd (σ 15) j v))) = mC ca ad (jw2 σ 15 j v) := rfl
theorem ma_15 {ca : Nat → ClassId} {ad : Nat → Nat} {σ : JS} {g : Nat → Int32} : (mC ca ad σ).set 15 (ad 15, .inl (ca 15, 122, .inl g)) = mC ca ad (jwA σ 15 g) := rfl
theorem mp_0 {ca : Nat → ClassId} {ad : Nat → Nat} {σ : JS} {v : Int32} : (mC ca ad σ).set 0 (ad 0, .inr (6, (mF_0 ad σ).set 0 (.int v))) = mC ca ad (jw2 σ 100 0 v) := rfl
theorem mp_1 {ca : Nat → ClassId} {ad : Nat → Nat} {σ : JS} {v : Int32} : (mC ca ad σ).set 0 (ad 0, .inr (6, (mF_0 ad σ).set 1 (.int v))) = mC ca ad (jw2 σ 100 1 v) := rfl
theorem mp_2 {ca : Nat → ClassId} {ad : Nat → Nat} {σ : JS} {v : Int32} : (mC ca ad σ).set 0 (ad 0, .inr (6, (mF_0 ad σ).set 5 (.int v))) = mC ca ad (jw2 σ 100 2 v) := rfl
theorem mp_3 {ca : Nat → ClassId} {ad : Nat → Nat} {σ : JS} {v : Int32} : (mC ca ad σ).set 0 (ad 0, .inr (6, (mF_0 ad σ).set 6 (.int v))) = mC ca ad (jw2 σ 100 3 v) := rfl
theorem mp_4 {ca : Nat → ClassId} {ad : Nat → Nat} {σ : JS} {v : Int32} : (mC ca ad σ).set 0 (ad 0, .inr (6, (mF_0 ad σ).set 7 (.int v))) = mC ca ad (jw2 σ 100 4 v) := rfl
theorem mp_5 {ca : Nat → ClassId} {ad : Nat → Nat} {σ : JS} {v : Int32} : (mC ca ad σ).set 0 (ad 0, .inr (6, (mF_0 ad σ).set 8 (.int v))) = mC ca ad (jw2 σ 100 5 v) := rfl
theorem mp_6 {ca : Nat → ClassId} {ad : Nat → Nat} {σ : JS} {v : Int32} : (mC ca ad σ).set 0 (ad 0, .inr (6, (mF_0 ad σ).set 16 (.int v))) = mC ca ad (jw2 σ 100 6 v) := rfl
theorem mp_7 {ca : Nat → ClassId} {ad : Nat → Nat} {σ : JS} {v : Int32} : (mC ca ad σ).set 0 (ad 0, .inr (6, (mF_0 ad σ).set 20 (.int v))) = mC ca ad (jw2 σ 100 7 v) := rfl
theorem mp_8 {ca : Nat → ClassId} {ad : Nat → Nat} {σ : JS} {v : Int32} : (mC ca ad σ).set 0 (ad 0, .inr (6, (mF_0 ad σ).set 23 (.int v))) = mC ca ad (jw2 σ 100 8 v) := rfl
theorem mp_9 {ca : Nat → ClassId} {ad : Nat → Nat} {σ : JS} {v : Int32} : (mC ca ad σ).set 0 (ad 0, .inr (6, (mF_0 ad σ).set 24 (.int v))) = mC ca ad (jw2 σ 100 9 v) := rfl
