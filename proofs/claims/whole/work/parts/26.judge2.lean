def rX2_areAlike (s : Nat) (u : Nat) (x1 : Int32) (x2 : Int32) (σ : Sg) : Bool := rX3_isLike (66 + 7 * s) (66 + 7 * s + 1) (66 + 7 * s + 2) (66 + 7 * s + 3) (66 + 7 * s + 4) (66 + 7 * s + 5) (66 + 7 * s + 6) (66 + 7 * u) (66 + 7 * u + 1) (66 + 7 * u + 2) (66 + 7 * u + 3) (66 + 7 * u + 4) (66 + 7 * u + 5) (66 + 7 * u + 6) σ
set_option maxRecDepth 100000 in
set_option maxHeartbeats 4000000 in
theorem ev_X2_areAlike {l : Launch} {b : Nat} {cy : Nat → ClassId} {D : va_G} {d : Nat} {s : Nat} {u : Nat} {x1 : Int32} {x2 : Int32} {σ : Sg}  (q1 : x1 = nI s) (hs : s < 12) (q2 : x2 = nI u) (hu : u < 12) (w1 : WOk σ (66 + 7 * s + 2)) (w2 : WOk σ (66 + 7 * u + 2)) : Es l b cy D (d + 3) yX2_areAlike cX2_areAlike (Option.some Jvm.ClassFile.FieldType.boolean) 3 [.ref (b + 51), .int (x1), .int (x2)] σ (some (.int (bI (rX2_areAlike s u x1 x2 σ)))) σ := by
  refine Ev.of (by decide) (Nat.le_of_ble_eq_true rfl) rfl ?_
  refine g_aload_n (pc' := 1) dX2_areAlike_0 rfl 0 rfl rfl ?_
  refine g_getR (pc' := 4) (a := 52) dX2_areAlike_1 rfl (PLk.lf fX2_11) o51 rfl ?_
  refine g_iload_n (pc' := 5) dX2_areAlike_4 rfl 1 rfl rfl ?_
  refine g_aald (pc' := 6) (j := s) (a := (66 + 7 * s)) dX2_areAlike_5 rfl o52 (by decide) rfl (by decide) q1 hs (ak _ hs) ?_
  refine g_aload_n (pc' := 7) dX2_areAlike_6 rfl 0 rfl rfl ?_
  refine g_getR (pc' := 10) (a := 52) dX2_areAlike_7 rfl (PLk.lf fX2_11) o51 rfl ?_
  refine g_iload_n (pc' := 11) dX2_areAlike_10 rfl 2 rfl rfl ?_
  refine g_aald (pc' := 12) (j := u) (a := (66 + 7 * u)) dX2_areAlike_11 rfl o52 (by decide) rfl (by decide) q2 hu (ak _ hu) ?_
  refine g_callr (pc' := 15) dX2_areAlike_12 rfl mX2_63 (ev_X3_isLike (k := (66 + 7 * s)) (s := (66 + 7 * s + 1)) (h := (66 + 7 * s + 2)) (r := (66 + 7 * s + 3)) (e := (66 + 7 * s + 4)) (w := (66 + 7 * s + 5)) (p := (66 + 7 * s + 6)) (i := (66 + 7 * u)) (s2 := (66 + 7 * u + 1)) (h2 := (66 + 7 * u + 2)) (r2 := (66 + 7 * u + 3)) (e2 := (66 + 7 * u + 4)) (w2 := (66 + 7 * u + 5)) (p2 := (66 + 7 * u + 6)) (σ := σ) (kiN _ hs) (kiN _ hu) w1 w2 (d := d)) (kiN _ hs).1 rfl (rm_ok (by omega) (by decide)) ⟨rfl, rfl⟩ ⟨Nat.zero_le _, Nat.zero_le _⟩ rfl rfl (Nat.le_of_ble_eq_true rfl) ?_
  exact g_zret dX2_areAlike_15 rfl (bI_01 _) ⟨rfl, rfl⟩ rfl
def rX2_isTwin (s : Nat) (x1 : Int32) (σ : Sg) : Bool := rX3_isLike (66 + 7 * s) (66 + 7 * s + 1) (66 + 7 * s + 2) (66 + 7 * s + 3) (66 + 7 * s + 4) (66 + 7 * s + 5) (66 + 7 * s + 6) 53 54 55 56 57 58 59 (sX3_lookAt 53 54 55 56 57 58 59 61 (sX6_turnBack 61 (ldS 2 61 s σ)))
def sX2_isTwin (s : Nat) (x1 : Int32) (σ : Sg) : Sg := sX3_lookAt 53 54 55 56 57 58 59 61 (sX6_turnBack 61 (ldS 2 61 s σ))
set_option maxRecDepth 100000 in
set_option maxHeartbeats 4000000 in
theorem ev_X2_isTwin {l : Launch} {b : Nat} {cy : Nat → ClassId} {D : va_G} {d : Nat} {s : Nat} {x1 : Int32} {σ : Sg}  (q1 : x1 = nI s) (hs : s < 12) (w1 : WOk σ (66 + 7 * s + 2)) (w2 : WOk σ 55) : Es l b cy D (d + 5) yX2_isTwin cX2_isTwin (Option.some Jvm.ClassFile.FieldType.boolean) 2 [.ref (b + 51), .int (x1)] σ (some (.int (bI (rX2_isTwin s x1 σ)))) (sX2_isTwin s x1 σ) := by
  refine Ev.of (by decide) (Nat.le_of_ble_eq_true rfl) rfl ?_
  refine g_aload_n (pc' := 1) dX2_isTwin_0 rfl 0 rfl rfl ?_
  refine g_getR (pc' := 4) (a := 1) dX2_isTwin_1 rfl (PLk.lf fX2_45) o51 rfl ?_
  refine g_iload_n (pc' := 5) dX2_isTwin_4 rfl 1 rfl rfl ?_
  refine g_aload_n (pc' := 6) dX2_isTwin_5 rfl 0 rfl rfl ?_
  refine g_getR (pc' := 9) (a := 61) dX2_isTwin_6 rfl (PLk.lf fX2_29) o51 rfl ?_
  refine g_callv (pc' := 12) dX2_isTwin_9 rfl mX2_55 (ev_X5_load (k := 1) (c := 2) (i := 61) (x1 := x1) (s := s) (σ := σ) sf1 o61 q1 hs (d := d + 3)) o1 rfl (rm_ok (by omega) (by decide)) ⟨rfl, rfl⟩ ⟨Nat.zero_le _, Nat.zero_le _⟩ rfl rfl (Nat.le_of_ble_eq_true rfl) ?_
  refine g_aload_n (pc' := 13) dX2_isTwin_12 rfl 0 rfl rfl ?_
  refine g_getR (pc' := 16) (a := 61) dX2_isTwin_13 rfl (PLk.lf fX2_29) o51 rfl ?_
  refine g_callv (pc' := 19) dX2_isTwin_16 rfl mX2_67 (ev_X6_turnBack (k := 61) (σ := ldS 2 61 s σ) o61 (d := d + 3)) o61 rfl (rm_ok (by omega) (by decide)) ⟨rfl, rfl⟩ ⟨Nat.zero_le _, Nat.zero_le _⟩ rfl rfl (Nat.le_of_ble_eq_true rfl) ?_
  refine g_aload_n (pc' := 20) dX2_isTwin_19 rfl 0 rfl rfl ?_
  refine g_getR (pc' := 23) (a := 53) dX2_isTwin_20 rfl (PLk.lf fX2_18) o51 rfl ?_
  refine g_aload_n (pc' := 24) dX2_isTwin_23 rfl 0 rfl rfl ?_
  refine g_getR (pc' := 27) (a := 61) dX2_isTwin_24 rfl (PLk.lf fX2_29) o51 rfl ?_
  refine g_callv (pc' := 30) dX2_isTwin_27 rfl mX2_59 (ev_X3_lookAt (k := 53) (s := 54) (h := 55) (r := 56) (e := 57) (w := 58) (p := 59) (i := 61) (σ := sX6_turnBack 61 (ldS 2 61 s σ)) ki53 o61 (d := d)) o53 rfl (rm_ok (by omega) (by decide)) ⟨rfl, rfl⟩ ⟨Nat.zero_le _, Nat.zero_le _⟩ rfl rfl (Nat.le_of_ble_eq_true rfl) ?_
  refine g_aload_n (pc' := 31) dX2_isTwin_30 rfl 0 rfl rfl ?_
  refine g_getR (pc' := 34) (a := 52) dX2_isTwin_31 rfl (PLk.lf fX2_11) o51 rfl ?_
  refine g_iload_n (pc' := 35) dX2_isTwin_34 rfl 1 rfl rfl ?_
  refine g_aald (pc' := 36) (j := s) (a := (66 + 7 * s)) dX2_isTwin_35 rfl o52 (by decide) rfl (by decide) q1 hs (ak _ hs) ?_
  refine g_aload_n (pc' := 37) dX2_isTwin_36 rfl 0 rfl rfl ?_
  refine g_getR (pc' := 40) (a := 53) dX2_isTwin_37 rfl (PLk.lf fX2_18) o51 rfl ?_
  refine g_callr (pc' := 43) dX2_isTwin_40 rfl mX2_63 (ev_X3_isLike (k := (66 + 7 * s)) (s := (66 + 7 * s + 1)) (h := (66 + 7 * s + 2)) (r := (66 + 7 * s + 3)) (e := (66 + 7 * s + 4)) (w := (66 + 7 * s + 5)) (p := (66 + 7 * s + 6)) (i := 53) (s2 := 54) (h2 := 55) (r2 := 56) (e2 := 57) (w2 := 58) (p2 := 59) (σ := sX3_lookAt 53 54 55 56 57 58 59 61 (sX6_turnBack 61 (ldS 2 61 s σ))) (kiN _ hs) ki53 (WOk.fr (look_1 (by omega) (by omega) (by omega)) (WOk.fr rfl w1)) (look_ok (by decide) (WOk.fr rfl w2)) (d := d + 2)) (kiN _ hs).1 rfl (rm_ok (by omega) (by decide)) ⟨rfl, rfl⟩ ⟨Nat.zero_le _, Nat.zero_le _⟩ rfl rfl (Nat.le_of_ble_eq_true rfl) ?_
  exact g_zret dX2_isTwin_43 rfl (bI_01 _) ⟨rfl, rfl⟩ rfl
def rX2_isLikeMirrored (s : Nat) (x1 : Int32) (σ : Sg) : Bool := rX3_isLike (66 + 7 * s) (66 + 7 * s + 1) (66 + 7 * s + 2) (66 + 7 * s + 3) (66 + 7 * s + 4) (66 + 7 * s + 5) (66 + 7 * s + 6) 53 54 55 56 57 58 59 (sX3_lookAt 53 54 55 56 57 58 59 61 (sX6_mirror 61 (ldS 2 61 s σ)))
def sX2_isLikeMirrored (s : Nat) (x1 : Int32) (σ : Sg) : Sg := sX3_lookAt 53 54 55 56 57 58 59 61 (sX6_mirror 61 (ldS 2 61 s σ))
set_option maxRecDepth 100000 in
set_option maxHeartbeats 4000000 in
theorem ev_X2_isLikeMirrored {l : Launch} {b : Nat} {cy : Nat → ClassId} {D : va_G} {d : Nat} {s : Nat} {x1 : Int32} {σ : Sg}  (q1 : x1 = nI s) (hs : s < 12) (w1 : WOk σ (66 + 7 * s + 2)) (w2 : WOk σ 55) : Es l b cy D (d + 5) yX2_isLikeMirrored cX2_isLikeMirrored (Option.some Jvm.ClassFile.FieldType.boolean) 2 [.ref (b + 51), .int (x1)] σ (some (.int (bI (rX2_isLikeMirrored s x1 σ)))) (sX2_isLikeMirrored s x1 σ) := by
  refine Ev.of (by decide) (Nat.le_of_ble_eq_true rfl) rfl ?_
  refine g_aload_n (pc' := 1) dX2_isLikeMirrored_0 rfl 0 rfl rfl ?_
  refine g_getR (pc' := 4) (a := 1) dX2_isLikeMirrored_1 rfl (PLk.lf fX2_45) o51 rfl ?_
  refine g_iload_n (pc' := 5) dX2_isLikeMirrored_4 rfl 1 rfl rfl ?_
  refine g_aload_n (pc' := 6) dX2_isLikeMirrored_5 rfl 0 rfl rfl ?_
  refine g_getR (pc' := 9) (a := 61) dX2_isLikeMirrored_6 rfl (PLk.lf fX2_29) o51 rfl ?_
  refine g_callv (pc' := 12) dX2_isLikeMirrored_9 rfl mX2_55 (ev_X5_load (k := 1) (c := 2) (i := 61) (x1 := x1) (s := s) (σ := σ) sf1 o61 q1 hs (d := d + 3)) o1 rfl (rm_ok (by omega) (by decide)) ⟨rfl, rfl⟩ ⟨Nat.zero_le _, Nat.zero_le _⟩ rfl rfl (Nat.le_of_ble_eq_true rfl) ?_
  refine g_aload_n (pc' := 13) dX2_isLikeMirrored_12 rfl 0 rfl rfl ?_
  refine g_getR (pc' := 16) (a := 61) dX2_isLikeMirrored_13 rfl (PLk.lf fX2_29) o51 rfl ?_
  refine g_callv (pc' := 19) dX2_isLikeMirrored_16 rfl mX2_70 (ev_X6_mirror (k := 61) (σ := ldS 2 61 s σ) o61 (d := d + 3)) o61 rfl (rm_ok (by omega) (by decide)) ⟨rfl, rfl⟩ ⟨Nat.zero_le _, Nat.zero_le _⟩ rfl rfl (Nat.le_of_ble_eq_true rfl) ?_
  refine g_aload_n (pc' := 20) dX2_isLikeMirrored_19 rfl 0 rfl rfl ?_
  refine g_getR (pc' := 23) (a := 53) dX2_isLikeMirrored_20 rfl (PLk.lf fX2_18) o51 rfl ?_
  refine g_aload_n (pc' := 24) dX2_isLikeMirrored_23 rfl 0 rfl rfl ?_
  refine g_getR (pc' := 27) (a := 61) dX2_isLikeMirrored_24 rfl (PLk.lf fX2_29) o51 rfl ?_
  refine g_callv (pc' := 30) dX2_isLikeMirrored_27 rfl mX2_59 (ev_X3_lookAt (k := 53) (s := 54) (h := 55) (r := 56) (e := 57) (w := 58) (p := 59) (i := 61) (σ := sX6_mirror 61 (ldS 2 61 s σ)) ki53 o61 (d := d)) o53 rfl (rm_ok (by omega) (by decide)) ⟨rfl, rfl⟩ ⟨Nat.zero_le _, Nat.zero_le _⟩ rfl rfl (Nat.le_of_ble_eq_true rfl) ?_
  refine g_aload_n (pc' := 31) dX2_isLikeMirrored_30 rfl 0 rfl rfl ?_
  refine g_getR (pc' := 34) (a := 52) dX2_isLikeMirrored_31 rfl (PLk.lf fX2_11) o51 rfl ?_
  refine g_iload_n (pc' := 35) dX2_isLikeMirrored_34 rfl 1 rfl rfl ?_
  refine g_aald (pc' := 36) (j := s) (a := (66 + 7 * s)) dX2_isLikeMirrored_35 rfl o52 (by decide) rfl (by decide) q1 hs (ak _ hs) ?_
  refine g_aload_n (pc' := 37) dX2_isLikeMirrored_36 rfl 0 rfl rfl ?_
  refine g_getR (pc' := 40) (a := 53) dX2_isLikeMirrored_37 rfl (PLk.lf fX2_18) o51 rfl ?_
  refine g_callr (pc' := 43) dX2_isLikeMirrored_40 rfl mX2_63 (ev_X3_isLike (k := (66 + 7 * s)) (s := (66 + 7 * s + 1)) (h := (66 + 7 * s + 2)) (r := (66 + 7 * s + 3)) (e := (66 + 7 * s + 4)) (w := (66 + 7 * s + 5)) (p := (66 + 7 * s + 6)) (i := 53) (s2 := 54) (h2 := 55) (r2 := 56) (e2 := 57) (w2 := 58) (p2 := 59) (σ := sX3_lookAt 53 54 55 56 57 58 59 61 (sX6_mirror 61 (ldS 2 61 s σ))) (kiN _ hs) ki53 (WOk.fr (look_1 (by omega) (by omega) (by omega)) (WOk.fr rfl w1)) (look_ok (by decide) (WOk.fr rfl w2)) (d := d + 2)) (kiN _ hs).1 rfl (rm_ok (by omega) (by decide)) ⟨rfl, rfl⟩ ⟨Nat.zero_le _, Nat.zero_le _⟩ rfl rfl (Nat.le_of_ble_eq_true rfl) ?_
  exact g_zret dX2_isLikeMirrored_43 rfl (bI_01 _) ⟨rfl, rfl⟩ rfl
def rX2_goTogether (s : Nat) (u : Nat) (x1 : Int32) (x2 : Int32) (σ : Sg) : Bool := rX6_isSameAs 62 63 (sX6_setProduct 63 61 60 (sX6_setProduct 62 60 61 (ldS 2 61 u (ldS 2 60 s σ))))
def sX2_goTogether (s : Nat) (u : Nat) (x1 : Int32) (x2 : Int32) (σ : Sg) : Sg := sX6_setProduct 63 61 60 (sX6_setProduct 62 60 61 (ldS 2 61 u (ldS 2 60 s σ)))
set_option maxRecDepth 100000 in
set_option maxHeartbeats 4000000 in
theorem ev_X2_goTogether {l : Launch} {b : Nat} {cy : Nat → ClassId} {D : va_G} {d : Nat} {s : Nat} {u : Nat} {x1 : Int32} {x2 : Int32} {σ : Sg}  (q1 : x1 = nI s) (hs : s < 12) (q2 : x2 = nI u) (hu : u < 12) : Es l b cy D (d + 2) yX2_goTogether cX2_goTogether (Option.some Jvm.ClassFile.FieldType.boolean) 3 [.ref (b + 51), .int (x1), .int (x2)] σ (some (.int (bI (rX2_goTogether s u x1 x2 σ)))) (sX2_goTogether s u x1 x2 σ) := by
  refine Ev.of (by decide) (Nat.le_of_ble_eq_true rfl) rfl ?_
  refine g_aload_n (pc' := 1) dX2_goTogether_0 rfl 0 rfl rfl ?_
  refine g_getR (pc' := 4) (a := 1) dX2_goTogether_1 rfl (PLk.lf fX2_45) o51 rfl ?_
  refine g_iload_n (pc' := 5) dX2_goTogether_4 rfl 1 rfl rfl ?_
  refine g_aload_n (pc' := 6) dX2_goTogether_5 rfl 0 rfl rfl ?_
  refine g_getR (pc' := 9) (a := 60) dX2_goTogether_6 rfl (PLk.lf fX2_25) o51 rfl ?_
  refine g_callv (pc' := 12) dX2_goTogether_9 rfl mX2_55 (ev_X5_load (k := 1) (c := 2) (i := 60) (x1 := x1) (s := s) (σ := σ) sf1 o60 q1 hs (d := d)) o1 rfl (rm_ok (by omega) (by decide)) ⟨rfl, rfl⟩ ⟨Nat.zero_le _, Nat.zero_le _⟩ rfl rfl (Nat.le_of_ble_eq_true rfl) ?_
  refine g_aload_n (pc' := 13) dX2_goTogether_12 rfl 0 rfl rfl ?_
  refine g_getR (pc' := 16) (a := 1) dX2_goTogether_13 rfl (PLk.lf fX2_45) o51 rfl ?_
  refine g_iload_n (pc' := 17) dX2_goTogether_16 rfl 2 rfl rfl ?_
  refine g_aload_n (pc' := 18) dX2_goTogether_17 rfl 0 rfl rfl ?_
  refine g_getR (pc' := 21) (a := 61) dX2_goTogether_18 rfl (PLk.lf fX2_29) o51 rfl ?_
  refine g_callv (pc' := 24) dX2_goTogether_21 rfl mX2_55 (ev_X5_load (k := 1) (c := 2) (i := 61) (x1 := x2) (s := u) (σ := ldS 2 60 s σ) sf1 o61 q2 hu (d := d)) o1 rfl (rm_ok (by omega) (by decide)) ⟨rfl, rfl⟩ ⟨Nat.zero_le _, Nat.zero_le _⟩ rfl rfl (Nat.le_of_ble_eq_true rfl) ?_
  refine g_aload_n (pc' := 25) dX2_goTogether_24 rfl 0 rfl rfl ?_
  refine g_getR (pc' := 28) (a := 62) dX2_goTogether_25 rfl (PLk.lf fX2_32) o51 rfl ?_
  refine g_aload_n (pc' := 29) dX2_goTogether_28 rfl 0 rfl rfl ?_
  refine g_getR (pc' := 32) (a := 60) dX2_goTogether_29 rfl (PLk.lf fX2_25) o51 rfl ?_
  refine g_aload_n (pc' := 33) dX2_goTogether_32 rfl 0 rfl rfl ?_
  refine g_getR (pc' := 36) (a := 61) dX2_goTogether_33 rfl (PLk.lf fX2_29) o51 rfl ?_
  refine g_callv (pc' := 39) dX2_goTogether_36 rfl mX2_93 (ev_X6_setProduct (k := 62) (i := 60) (j := 61) (σ := ldS 2 61 u (ldS 2 60 s σ)) o62 o60 o61 (d := d)) o62 rfl (rm_ok (by omega) (by decide)) ⟨rfl, rfl⟩ ⟨Nat.zero_le _, Nat.zero_le _⟩ rfl rfl (Nat.le_of_ble_eq_true rfl) ?_
  refine g_aload_n (pc' := 40) dX2_goTogether_39 rfl 0 rfl rfl ?_
  refine g_getR (pc' := 43) (a := 63) dX2_goTogether_40 rfl (PLk.lf fX2_35) o51 rfl ?_
  refine g_aload_n (pc' := 44) dX2_goTogether_43 rfl 0 rfl rfl ?_
  refine g_getR (pc' := 47) (a := 61) dX2_goTogether_44 rfl (PLk.lf fX2_29) o51 rfl ?_
  refine g_aload_n (pc' := 48) dX2_goTogether_47 rfl 0 rfl rfl ?_
  refine g_getR (pc' := 51) (a := 60) dX2_goTogether_48 rfl (PLk.lf fX2_25) o51 rfl ?_
  refine g_callv (pc' := 54) dX2_goTogether_51 rfl mX2_93 (ev_X6_setProduct (k := 63) (i := 61) (j := 60) (σ := sX6_setProduct 62 60 61 (ldS 2 61 u (ldS 2 60 s σ))) o63 o61 o60 (d := d)) o63 rfl (rm_ok (by omega) (by decide)) ⟨rfl, rfl⟩ ⟨Nat.zero_le _, Nat.zero_le _⟩ rfl rfl (Nat.le_of_ble_eq_true rfl) ?_
  refine g_aload_n (pc' := 55) dX2_goTogether_54 rfl 0 rfl rfl ?_
  refine g_getR (pc' := 58) (a := 62) dX2_goTogether_55 rfl (PLk.lf fX2_32) o51 rfl ?_
  refine g_aload_n (pc' := 59) dX2_goTogether_58 rfl 0 rfl rfl ?_
  refine g_getR (pc' := 62) (a := 63) dX2_goTogether_59 rfl (PLk.lf fX2_35) o51 rfl ?_
  refine g_callr (pc' := 65) dX2_goTogether_62 rfl mX2_97 (ev_X6_isSameAs (k := 62) (i := 63) (σ := sX6_setProduct 63 61 60 (sX6_setProduct 62 60 61 (ldS 2 61 u (ldS 2 60 s σ)))) o62 o63 (d := d + 1)) o62 rfl (rm_ok (by omega) (by decide)) ⟨rfl, rfl⟩ ⟨Nat.zero_le _, Nat.zero_le _⟩ rfl rfl (Nat.le_of_ble_eq_true rfl) ?_
  exact g_zret dX2_goTogether_65 rfl (bI_01 _) ⟨rfl, rfl⟩ rfl
def al (σ : Sg) (s u : Nat) : Bool := rX2_areAlike s u (nI s) (nI u) σ
def famF (σ : Sg) (s : Nat) : Nat → Nat → Int32 → Int32
  | 0, _, a => a
  | m + 1, u, a => famF σ s m (u + 1) (if al σ s u = true then a ||| (1 <<< (nI u &&& 31)) else a)
def WAll (σ : Sg) : Prop := ∀ s, s < 12 → WOk σ (66 + 7 * s + 2)
set_option maxRecDepth 100000 in
set_option maxHeartbeats 4000000 in
theorem lp_fam {l : Launch} {b : Nat} {cy : Nat → ClassId} {D : va_G} {d : Nat}   {n s : Nat} {σ : Sg}  (hs : s < 12) (hz : σ.1 1 1 = nI n) (hn : n ≤ 12) (hw : WAll σ) : ∀ (m : Nat) (u : Nat) (a : Int32), u + m = n → Gs l b cy D (d + 4) yX2_familyOf cX2_familyOf (Option.some Jvm.ClassFile.FieldType.int) 4 (some (.int (famF σ s m u a))) σ 4 [(0, .ref (b + 51)), (1, .int (nI s)), (2, .int (a)), (3, .int (nI u))] [] σ := by
  intro m
  induction m with
  | zero =>
    intro u a hu
    refine g_iload_n (pc' := 5) dX2_familyOf_4 rfl 3 rfl rfl ?_
    refine g_aload_n (pc' := 6) dX2_familyOf_5 rfl 0 rfl rfl ?_
    refine g_getR (pc' := 9) (a := 1) dX2_familyOf_6 rfl (PLk.lf fX2_45) o51 rfl ?_
    refine g_callr (pc' := 12) dX2_familyOf_9 rfl mX2_49 (ev_X5_size (k := 1) (c := 2) (σ := σ) sf1 (d := d + 3)) o1 rfl (rm_ok (by omega) (by decide)) ⟨rfl, rfl⟩ ⟨Nat.zero_le _, Nat.zero_le _⟩ rfl rfl (Nat.le_of_ble_eq_true rfl) ?_
    refine g_icmp_ge (pc' := 15) (tgt := 36) dX2_familyOf_12 rfl (by decide) (fun (c1 : (rX5_size 1 2 σ : Int32) ≤ (nI u)) => ?_) (fun (c1 : ¬ (rX5_size 1 2 σ : Int32) ≤ (nI u)) => ?_)
    · refine g_iload_n (pc' := 37) dX2_familyOf_36 rfl 2 rfl rfl ?_
      exact g_iret dX2_familyOf_37 rfl ⟨rfl, rfl⟩ rfl
    · exact absurd (show rX5_size 1 2 σ ≤ nI u from by unfold rX5_size; rw [hz]; exact (nI_leI (by omega) (by omega)).mpr (by omega)) c1
  | succ m ih =>
    intro u a hu
    refine g_iload_n (pc' := 5) dX2_familyOf_4 rfl 3 rfl rfl ?_
    refine g_aload_n (pc' := 6) dX2_familyOf_5 rfl 0 rfl rfl ?_
    refine g_getR (pc' := 9) (a := 1) dX2_familyOf_6 rfl (PLk.lf fX2_45) o51 rfl ?_
    refine g_callr (pc' := 12) dX2_familyOf_9 rfl mX2_49 (ev_X5_size (k := 1) (c := 2) (σ := σ) sf1 (d := d + 3)) o1 rfl (rm_ok (by omega) (by decide)) ⟨rfl, rfl⟩ ⟨Nat.zero_le _, Nat.zero_le _⟩ rfl rfl (Nat.le_of_ble_eq_true rfl) ?_
    refine g_icmp_ge (pc' := 15) (tgt := 36) dX2_familyOf_12 rfl (by decide) (fun (c1 : (rX5_size 1 2 σ : Int32) ≤ (nI u)) => ?_) (fun (c1 : ¬ (rX5_size 1 2 σ : Int32) ≤ (nI u)) => ?_)
    · exact absurd (nle (a := n) (c := u) c1 hz rfl (by omega) (by omega)) (by omega)
    · refine g_aload_n (pc' := 16) dX2_familyOf_15 rfl 0 rfl rfl ?_
      refine g_iload_n (pc' := 17) dX2_familyOf_16 rfl 1 rfl rfl ?_
      refine g_iload_n (pc' := 18) dX2_familyOf_17 rfl 3 rfl rfl ?_
      refine g_callr (pc' := 21) dX2_familyOf_18 rfl mX2_77 (ev_X2_areAlike (s := s) (u := u) (x1 := nI s) (x2 := nI u) (σ := σ) rfl hs rfl (by omega) (hw s hs) (hw u (by omega)) (d := d)) o51 rfl (rm_ok (by omega) (by decide)) ⟨rfl, rfl⟩ ⟨Nat.zero_le _, Nat.zero_le _⟩ rfl rfl (Nat.le_of_ble_eq_true rfl) ?_
      refine g_ifb_eq (pc' := 24) (tgt := 30) dX2_familyOf_21 rfl (by decide) (fun (c2 : (rX2_areAlike s u (nI s) (nI u) σ) = false) => ?_) (fun (c2 : (rX2_areAlike s u (nI s) (nI u) σ) = true) => ?_)
      · refine g_iinc (pc' := 33) (v := nI (u + 1)) (lv' := [(3, .int (nI (u + 1))), (0, .ref (b + 51)), (1, .int (nI s)), (2, .int (a))]) dX2_familyOf_30 rfl 3 rfl (nI_1 u) (by decide) rfl ?_
        refine g_goto (tgt := 4) dX2_familyOf_33 (by decide) ?_
        rw [show famF σ s (m + 1) u a = famF σ s m (u + 1) a by rw [famF, show al σ s u = rX2_areAlike s u (nI s) (nI u) σ from rfl, if_neg (bf c2)]]
        refine g_sub [1, 2, 3, 0] rfl ?_
        exact ih (u + 1) _ (by omega)
      · refine g_iload_n (pc' := 25) dX2_familyOf_24 rfl 2 rfl rfl ?_
        refine g_iconst (pc' := 26) (v := 1) dX2_familyOf_25 rfl (by decide) ?_
        refine g_iload_n (pc' := 27) dX2_familyOf_26 rfl 3 rfl rfl ?_
        refine g_ishl (pc' := 28) dX2_familyOf_27 rfl ?_
        refine g_ior (pc' := 29) dX2_familyOf_28 rfl ?_
        refine g_istore_n (pc' := 30) (j := 2) (lv' := [(2, .int (a ||| (1 <<< ((nI u) &&& 31)))), (0, .ref (b + 51)), (1, .int (nI s)), (3, .int (nI u))]) dX2_familyOf_29 rfl rfl (by decide) rfl ?_
        refine g_iinc (pc' := 33) (v := nI (u + 1)) (lv' := [(3, .int (nI (u + 1))), (2, .int (a ||| (1 <<< ((nI u) &&& 31)))), (0, .ref (b + 51)), (1, .int (nI s))]) dX2_familyOf_30 rfl 3 rfl (nI_1 u) (by decide) rfl ?_
        refine g_goto (tgt := 4) dX2_familyOf_33 (by decide) ?_
        rw [show famF σ s (m + 1) u a = famF σ s m (u + 1) (a ||| (1 <<< ((nI u) &&& 31))) by rw [famF, show al σ s u = rX2_areAlike s u (nI s) (nI u) σ from rfl, if_pos c2]]
        refine g_sub [2, 3, 1, 0] rfl ?_
        exact ih (u + 1) _ (by omega)
set_option maxRecDepth 100000 in
set_option maxHeartbeats 4000000 in
theorem ev_X2_familyOf {l : Launch} {b : Nat} {cy : Nat → ClassId} {D : va_G} {d : Nat}  {x1 : Int32} {s : Nat} {n : Nat} {σ : Sg}  (q1 : x1 = nI s) (hs : s < 12) (hz : σ.1 1 1 = nI n) (hn : n ≤ 12) (hw : WAll σ) : Es l b cy D (d + 4) yX2_familyOf cX2_familyOf (Option.some Jvm.ClassFile.FieldType.int) 4 [.ref (b + 51), .int (x1)] σ (some (.int (famF σ s n 0 0))) σ := by
  refine Ev.of (by decide) (Nat.le_of_ble_eq_true rfl) rfl ?_
  refine g_iconst (pc' := 1) (v := 0) dX2_familyOf_0 rfl (by decide) ?_
  refine g_istore_n (pc' := 2) (j := 2) (lv' := [(2, .int (0)), (0, .ref (b + 51)), (1, .int (x1))]) dX2_familyOf_1 rfl rfl (by decide) rfl ?_
  refine g_iconst (pc' := 3) (v := 0) dX2_familyOf_2 rfl (by decide) ?_
  refine g_istore_n (pc' := 4) (j := 3) (lv' := [(3, .int (0)), (2, .int (0)), (0, .ref (b + 51)), (1, .int (x1))]) dX2_familyOf_3 rfl rfl (by decide) rfl ?_
  subst q1
  refine g_sub [2, 3, 1, 0] rfl ?_
  exact lp_fam hs hz hn hw n 0 0 (by omega)
def cfaF (σ : Sg) (n : Nat) : Nat → Nat → Int32 → Int32
  | 0, _, a => a
  | m + 1, u, a => cfaF σ n m (u + 1) (if rJ6_numberOfTrailingZeros_0f7a4 (famF σ u n 0 0) σ = nI u then a + 1 else a)
def gfaF (σ : Sg) (n : Nat) : Nat → Nat → Int32 → Int32
  | 0, _, a => a
  | m + 1, u, a => gfaF σ n m (u + 1) (if rJ6_bitCount_0f7a4 (famF σ u n 0 0) σ ≤ rJ6_bitCount_0f7a4 a σ then a else famF σ u n 0 0)
set_option maxRecDepth 100000 in
set_option maxHeartbeats 4000000 in
theorem lp_cfa {l : Launch} {b : Nat} {cy : Nat → ClassId} {D : va_G} {d : Nat}   {n : Nat} {σ : Sg}  (hz : σ.1 1 1 = nI n) (hn : n ≤ 12) (hw : WAll σ) : ∀ (m : Nat) (u : Nat) (a : Int32), u + m = n → Gs l b cy D (d + 5) yX2_countFamilies cX2_countFamilies (Option.some Jvm.ClassFile.FieldType.int) 3 (some (.int (cfaF σ n m u a))) σ 4 [(0, .ref (b + 51)), (1, .int (a)), (2, .int (nI u))] [] σ := by
  intro m
  induction m with
  | zero =>
    intro u a hu
    refine g_iload_n (pc' := 5) dX2_countFamilies_4 rfl 2 rfl rfl ?_
    refine g_aload_n (pc' := 6) dX2_countFamilies_5 rfl 0 rfl rfl ?_
    refine g_getR (pc' := 9) (a := 1) dX2_countFamilies_6 rfl (PLk.lf fX2_45) o51 rfl ?_
    refine g_callr (pc' := 12) dX2_countFamilies_9 rfl mX2_49 (ev_X5_size (k := 1) (c := 2) (σ := σ) sf1 (d := d + 4)) o1 rfl (rm_ok (by omega) (by decide)) ⟨rfl, rfl⟩ ⟨Nat.zero_le _, Nat.zero_le _⟩ rfl rfl (Nat.le_of_ble_eq_true rfl) ?_
    refine g_icmp_ge (pc' := 15) (tgt := 36) dX2_countFamilies_12 rfl (by decide) (fun (c1 : (rX5_size 1 2 σ : Int32) ≤ (nI u)) => ?_) (fun (c1 : ¬ (rX5_size 1 2 σ : Int32) ≤ (nI u)) => ?_)
    · refine g_iload_n (pc' := 37) dX2_countFamilies_36 rfl 1 rfl rfl ?_
      exact g_iret dX2_countFamilies_37 rfl ⟨rfl, rfl⟩ rfl
    · exact absurd (show rX5_size 1 2 σ ≤ nI u from by unfold rX5_size; rw [hz]; exact (nI_leI (by omega) (by omega)).mpr (by omega)) c1
  | succ m ih =>
    intro u a hu
    refine g_iload_n (pc' := 5) dX2_countFamilies_4 rfl 2 rfl rfl ?_
    refine g_aload_n (pc' := 6) dX2_countFamilies_5 rfl 0 rfl rfl ?_
    refine g_getR (pc' := 9) (a := 1) dX2_countFamilies_6 rfl (PLk.lf fX2_45) o51 rfl ?_
    refine g_callr (pc' := 12) dX2_countFamilies_9 rfl mX2_49 (ev_X5_size (k := 1) (c := 2) (σ := σ) sf1 (d := d + 4)) o1 rfl (rm_ok (by omega) (by decide)) ⟨rfl, rfl⟩ ⟨Nat.zero_le _, Nat.zero_le _⟩ rfl rfl (Nat.le_of_ble_eq_true rfl) ?_
    refine g_icmp_ge (pc' := 15) (tgt := 36) dX2_countFamilies_12 rfl (by decide) (fun (c1 : (rX5_size 1 2 σ : Int32) ≤ (nI u)) => ?_) (fun (c1 : ¬ (rX5_size 1 2 σ : Int32) ≤ (nI u)) => ?_)
    · exact absurd (nle (a := n) (c := u) c1 hz rfl (by omega) (by omega)) (by omega)
    · refine g_aload_n (pc' := 16) dX2_countFamilies_15 rfl 0 rfl rfl ?_
      refine g_iload_n (pc' := 17) dX2_countFamilies_16 rfl 2 rfl rfl ?_
      refine g_callr (pc' := 20) dX2_countFamilies_17 rfl mX2_81 (ev_X2_familyOf (x1 := nI u) (s := u) (n := n) (σ := σ) rfl (by omega) hz hn hw (d := d)) o51 rfl (rm_ok (by omega) (by decide)) ⟨rfl, rfl⟩ ⟨Nat.zero_le _, Nat.zero_le _⟩ rfl rfl (Nat.le_of_ble_eq_true rfl) ?_
      refine g_callsr (pc' := 23) dX2_countFamilies_20 rfl mX2_85 (ev_J6_numberOfTrailingZeros_0f7a4 (x1 := famF σ u n 0 0) (σ := σ)  (d := d + 4)) (rm_ok (by omega) (by decide)) ⟨rfl, rfl⟩ ⟨Nat.zero_le _, Nat.zero_le _⟩ rfl rfl (Nat.le_of_ble_eq_true rfl) ?_
      refine g_iload_n (pc' := 24) dX2_countFamilies_23 rfl 2 rfl rfl ?_
      refine g_icmp_ne (pc' := 27) (tgt := 30) dX2_countFamilies_24 rfl (by decide) (fun (c2 : ¬ (rJ6_numberOfTrailingZeros_0f7a4 (famF σ u n 0 0) σ : Int32) = (nI u)) => ?_) (fun (c2 : (rJ6_numberOfTrailingZeros_0f7a4 (famF σ u n 0 0) σ : Int32) = (nI u)) => ?_)
      · refine g_iinc (pc' := 33) (v := nI (u + 1)) (lv' := [(2, .int (nI (u + 1))), (0, .ref (b + 51)), (1, .int (a))]) dX2_countFamilies_30 rfl 2 rfl (nI_1 u) (by decide) rfl ?_
        refine g_goto (tgt := 4) dX2_countFamilies_33 (by decide) ?_
        rw [show cfaF σ n (m + 1) u a = cfaF σ n m (u + 1) a by rw [cfaF, if_neg c2]]
        refine g_sub [1, 2, 0] rfl ?_
        exact ih (u + 1) _ (by omega)
      · refine g_iinc (pc' := 30) (v := a + 1) (lv' := [(1, .int (a + 1)), (0, .ref (b + 51)), (2, .int (nI u))]) dX2_countFamilies_27 rfl 1 rfl rfl (by decide) rfl ?_
        refine g_iinc (pc' := 33) (v := nI (u + 1)) (lv' := [(2, .int (nI (u + 1))), (1, .int (a + 1)), (0, .ref (b + 51))]) dX2_countFamilies_30 rfl 2 rfl (nI_1 u) (by decide) rfl ?_
        refine g_goto (tgt := 4) dX2_countFamilies_33 (by decide) ?_
        rw [show cfaF σ n (m + 1) u a = cfaF σ n m (u + 1) (a + 1) by rw [cfaF, if_pos c2]]
        refine g_sub [2, 1, 0] rfl ?_
        exact ih (u + 1) _ (by omega)
set_option maxRecDepth 100000 in
set_option maxHeartbeats 4000000 in
theorem ev_X2_countFamilies {l : Launch} {b : Nat} {cy : Nat → ClassId} {D : va_G} {d : Nat}   {n : Nat} {σ : Sg}  (hz : σ.1 1 1 = nI n) (hn : n ≤ 12) (hw : WAll σ) : Es l b cy D (d + 5) yX2_countFamilies cX2_countFamilies (Option.some Jvm.ClassFile.FieldType.int) 3 [.ref (b + 51)] σ (some (.int (cfaF σ n n 0 0))) σ := by
  refine Ev.of (by decide) (Nat.le_of_ble_eq_true rfl) rfl ?_
  refine g_iconst (pc' := 1) (v := 0) dX2_countFamilies_0 rfl (by decide) ?_
  refine g_istore_n (pc' := 2) (j := 1) (lv' := [(1, .int (0)), (0, .ref (b + 51))]) dX2_countFamilies_1 rfl rfl (by decide) rfl ?_
  refine g_iconst (pc' := 3) (v := 0) dX2_countFamilies_2 rfl (by decide) ?_
  refine g_istore_n (pc' := 4) (j := 2) (lv' := [(2, .int (0)), (1, .int (0)), (0, .ref (b + 51))]) dX2_countFamilies_3 rfl rfl (by decide) rfl ?_
  refine g_sub [2, 1, 0] rfl ?_
  exact lp_cfa hz hn hw n 0 0 (by omega)
set_option maxRecDepth 100000 in
set_option maxHeartbeats 4000000 in
theorem lp_gfa {l : Launch} {b : Nat} {cy : Nat → ClassId} {D : va_G} {d : Nat}   {n : Nat} {σ : Sg}  (hz : σ.1 1 1 = nI n) (hn : n ≤ 12) (hw : WAll σ) : ∀ (m : Nat) (u : Nat) (a : Int32), u + m = n → Gs l b cy D (d + 5) yX2_greatestFamily cX2_greatestFamily (Option.some Jvm.ClassFile.FieldType.int) 4 (some (.int (gfaF σ n m u a))) σ 4 [(0, .ref (b + 51)), (1, .int (a)), (2, .int (nI u))] [] σ := by
  intro m
  induction m with
  | zero =>
    intro u a hu
    refine g_iload_n (pc' := 5) dX2_greatestFamily_4 rfl 2 rfl rfl ?_
    refine g_aload_n (pc' := 6) dX2_greatestFamily_5 rfl 0 rfl rfl ?_
    refine g_getR (pc' := 9) (a := 1) dX2_greatestFamily_6 rfl (PLk.lf fX2_45) o51 rfl ?_
    refine g_callr (pc' := 12) dX2_greatestFamily_9 rfl mX2_49 (ev_X5_size (k := 1) (c := 2) (σ := σ) sf1 (d := d + 4)) o1 rfl (rm_ok (by omega) (by decide)) ⟨rfl, rfl⟩ ⟨Nat.zero_le _, Nat.zero_le _⟩ rfl rfl (Nat.le_of_ble_eq_true rfl) ?_
    refine g_icmp_ge (pc' := 15) (tgt := 40) dX2_greatestFamily_12 rfl (by decide) (fun (c1 : (rX5_size 1 2 σ : Int32) ≤ (nI u)) => ?_) (fun (c1 : ¬ (rX5_size 1 2 σ : Int32) ≤ (nI u)) => ?_)
    · refine g_iload_n (pc' := 41) dX2_greatestFamily_40 rfl 1 rfl rfl ?_
      exact g_iret dX2_greatestFamily_41 rfl ⟨rfl, rfl⟩ rfl
    · exact absurd (show rX5_size 1 2 σ ≤ nI u from by unfold rX5_size; rw [hz]; exact (nI_leI (by omega) (by omega)).mpr (by omega)) c1
  | succ m ih =>
    intro u a hu
    refine g_iload_n (pc' := 5) dX2_greatestFamily_4 rfl 2 rfl rfl ?_
    refine g_aload_n (pc' := 6) dX2_greatestFamily_5 rfl 0 rfl rfl ?_
    refine g_getR (pc' := 9) (a := 1) dX2_greatestFamily_6 rfl (PLk.lf fX2_45) o51 rfl ?_
    refine g_callr (pc' := 12) dX2_greatestFamily_9 rfl mX2_49 (ev_X5_size (k := 1) (c := 2) (σ := σ) sf1 (d := d + 4)) o1 rfl (rm_ok (by omega) (by decide)) ⟨rfl, rfl⟩ ⟨Nat.zero_le _, Nat.zero_le _⟩ rfl rfl (Nat.le_of_ble_eq_true rfl) ?_
    refine g_icmp_ge (pc' := 15) (tgt := 40) dX2_greatestFamily_12 rfl (by decide) (fun (c1 : (rX5_size 1 2 σ : Int32) ≤ (nI u)) => ?_) (fun (c1 : ¬ (rX5_size 1 2 σ : Int32) ≤ (nI u)) => ?_)
    · exact absurd (nle (a := n) (c := u) c1 hz rfl (by omega) (by omega)) (by omega)
    · refine g_aload_n (pc' := 16) dX2_greatestFamily_15 rfl 0 rfl rfl ?_
      refine g_iload_n (pc' := 17) dX2_greatestFamily_16 rfl 2 rfl rfl ?_
      refine g_callr (pc' := 20) dX2_greatestFamily_17 rfl mX2_81 (ev_X2_familyOf (x1 := nI u) (s := u) (n := n) (σ := σ) rfl (by omega) hz hn hw (d := d)) o51 rfl (rm_ok (by omega) (by decide)) ⟨rfl, rfl⟩ ⟨Nat.zero_le _, Nat.zero_le _⟩ rfl rfl (Nat.le_of_ble_eq_true rfl) ?_
      refine g_istore_n (pc' := 21) (j := 3) (lv' := [(3, .int (famF σ u n 0 0)), (0, .ref (b + 51)), (1, .int (a)), (2, .int (nI u))]) dX2_greatestFamily_20 rfl rfl (by decide) rfl ?_
      refine g_iload_n (pc' := 22) dX2_greatestFamily_21 rfl 0 rfl rfl ?_
      refine g_callsr (pc' := 25) dX2_greatestFamily_22 rfl mX2_90 (ev_J6_bitCount_0f7a4 (x1 := famF σ u n 0 0) (σ := σ)  (d := d + 4)) (rm_ok (by omega) (by decide)) ⟨rfl, rfl⟩ ⟨Nat.zero_le _, Nat.zero_le _⟩ rfl rfl (Nat.le_of_ble_eq_true rfl) ?_
      refine g_iload_n (pc' := 26) dX2_greatestFamily_25 rfl 2 rfl rfl ?_
      refine g_callsr (pc' := 29) dX2_greatestFamily_26 rfl mX2_90 (ev_J6_bitCount_0f7a4 (x1 := a) (σ := σ)  (d := d + 4)) (rm_ok (by omega) (by decide)) ⟨rfl, rfl⟩ ⟨Nat.zero_le _, Nat.zero_le _⟩ rfl rfl (Nat.le_of_ble_eq_true rfl) ?_
      refine g_icmp_le (pc' := 32) (tgt := 34) dX2_greatestFamily_29 rfl (by decide) (fun (c2 : (rJ6_bitCount_0f7a4 (famF σ u n 0 0) σ : Int32) ≤ (rJ6_bitCount_0f7a4 a σ)) => ?_) (fun (c2 : ¬ (rJ6_bitCount_0f7a4 (famF σ u n 0 0) σ : Int32) ≤ (rJ6_bitCount_0f7a4 a σ)) => ?_)
      · refine g_iinc (pc' := 37) (v := nI (u + 1)) (lv' := [(2, .int (nI (u + 1))), (3, .int (famF σ u n 0 0)), (0, .ref (b + 51)), (1, .int (a))]) dX2_greatestFamily_34 rfl 3 rfl (nI_1 u) (by decide) rfl ?_
        refine g_goto (tgt := 4) dX2_greatestFamily_37 (by decide) ?_
        rw [show gfaF σ n (m + 1) u a = gfaF σ n m (u + 1) a by rw [gfaF, if_pos c2]]
        refine g_sub [2, 3, 0] rfl ?_
        exact ih (u + 1) _ (by omega)
      · refine g_iload_n (pc' := 33) dX2_greatestFamily_32 rfl 0 rfl rfl ?_
        refine g_istore_n (pc' := 34) (j := 1) (lv' := [(1, .int (famF σ u n 0 0)), (3, .int (famF σ u n 0 0)), (0, .ref (b + 51)), (2, .int (nI u))]) dX2_greatestFamily_33 rfl rfl (by decide) rfl ?_
        refine g_iinc (pc' := 37) (v := nI (u + 1)) (lv' := [(2, .int (nI (u + 1))), (1, .int (famF σ u n 0 0)), (3, .int (famF σ u n 0 0)), (0, .ref (b + 51))]) dX2_greatestFamily_34 rfl 3 rfl (nI_1 u) (by decide) rfl ?_
        refine g_goto (tgt := 4) dX2_greatestFamily_37 (by decide) ?_
        rw [show gfaF σ n (m + 1) u a = gfaF σ n m (u + 1) (famF σ u n 0 0) by rw [gfaF, if_neg c2]]
        refine g_sub [3, 1, 0] rfl ?_
        exact ih (u + 1) _ (by omega)
set_option maxRecDepth 100000 in
set_option maxHeartbeats 4000000 in
theorem ev_X2_greatestFamily {l : Launch} {b : Nat} {cy : Nat → ClassId} {D : va_G} {d : Nat}   {n : Nat} {σ : Sg}  (hz : σ.1 1 1 = nI n) (hn : n ≤ 12) (hw : WAll σ) : Es l b cy D (d + 5) yX2_greatestFamily cX2_greatestFamily (Option.some Jvm.ClassFile.FieldType.int) 4 [.ref (b + 51)] σ (some (.int (gfaF σ n n 0 0))) σ := by
  refine Ev.of (by decide) (Nat.le_of_ble_eq_true rfl) rfl ?_
  refine g_iconst (pc' := 1) (v := 0) dX2_greatestFamily_0 rfl (by decide) ?_
  refine g_istore_n (pc' := 2) (j := 1) (lv' := [(1, .int (0)), (0, .ref (b + 51))]) dX2_greatestFamily_1 rfl rfl (by decide) rfl ?_
  refine g_iconst (pc' := 3) (v := 0) dX2_greatestFamily_2 rfl (by decide) ?_
  refine g_istore_n (pc' := 4) (j := 2) (lv' := [(2, .int (0)), (1, .int (0)), (0, .ref (b + 51))]) dX2_greatestFamily_3 rfl rfl (by decide) rfl ?_
  refine g_sub [2, 1, 0] rfl ?_
  exact lp_gfa hz hn hw n 0 0 (by omega)
