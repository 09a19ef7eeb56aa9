def rX2_areAlike (s : Nat) (u : Nat) (x1 : Int32) (x2 : Int32) (σ : Sg) : Bool := rX3_isLike (65 + 7 * s) (65 + 7 * s + 1) (65 + 7 * s + 2) (65 + 7 * s + 3) (65 + 7 * s + 4) (65 + 7 * s + 5) (65 + 7 * s + 6) (65 + 7 * u) (65 + 7 * u + 1) (65 + 7 * u + 2) (65 + 7 * u + 3) (65 + 7 * u + 4) (65 + 7 * u + 5) (65 + 7 * u + 6) σ
set_option maxRecDepth 100000 in
set_option maxHeartbeats 4000000 in
theorem ev_X2_areAlike {l : Launch} {b : Nat} {cy : Nat → ClassId} {D : va_G} {d : Nat} {s : Nat} {u : Nat} {x1 : Int32} {x2 : Int32} {σ : Sg}  (q1 : x1 = nI s) (hs : s < 12) (q2 : x2 = nI u) (hu : u < 12) (w1 : WOk σ (65 + 7 * s + 2)) (w2 : WOk σ (65 + 7 * u + 2)) : Es l b cy D (d + 3) yX2_areAlike cX2_areAlike (Option.some Jvm.ClassFile.FieldType.boolean) 3 [.ref (b + 51), .int (x1), .int (x2)] σ (some (.int (bI (rX2_areAlike s u x1 x2 σ)))) σ := by
  refine Ev.of (by decide) (Nat.le_of_ble_eq_true rfl) rfl ?_
  refine g_aload_n (pc' := 1) dX2_areAlike_0 rfl 0 rfl rfl ?_
  refine g_getR (pc' := 4) (a := 52) dX2_areAlike_1 rfl (PLk.lf fX2_11) o51 rfl ?_
  refine g_iload_n (pc' := 5) dX2_areAlike_4 rfl 1 rfl rfl ?_
  refine g_aald (pc' := 6) (j := s) (a := (65 + 7 * s)) dX2_areAlike_5 rfl o52 (by decide) rfl (by decide) q1 hs (ak _ hs) ?_
  refine g_aload_n (pc' := 7) dX2_areAlike_6 rfl 0 rfl rfl ?_
  refine g_getR (pc' := 10) (a := 52) dX2_areAlike_7 rfl (PLk.lf fX2_11) o51 rfl ?_
  refine g_iload_n (pc' := 11) dX2_areAlike_10 rfl 2 rfl rfl ?_
  refine g_aald (pc' := 12) (j := u) (a := (65 + 7 * u)) dX2_areAlike_11 rfl o52 (by decide) rfl (by decide) q2 hu (ak _ hu) ?_
  refine g_callr (pc' := 15) dX2_areAlike_12 rfl mX2_59 (ev_X3_isLike (k := (65 + 7 * s)) (s := (65 + 7 * s + 1)) (h := (65 + 7 * s + 2)) (r := (65 + 7 * s + 3)) (e := (65 + 7 * s + 4)) (w := (65 + 7 * s + 5)) (p := (65 + 7 * s + 6)) (i := (65 + 7 * u)) (s2 := (65 + 7 * u + 1)) (h2 := (65 + 7 * u + 2)) (r2 := (65 + 7 * u + 3)) (e2 := (65 + 7 * u + 4)) (w2 := (65 + 7 * u + 5)) (p2 := (65 + 7 * u + 6)) (σ := σ) (kiN _ hs) (kiN _ hu) w1 w2 (d := d)) (kiN _ hs).1 rfl (rm_ok (by omega) (by decide)) ⟨rfl, rfl⟩ ⟨Nat.zero_le _, Nat.zero_le _⟩ rfl rfl (Nat.le_of_ble_eq_true rfl) ?_
  exact g_zret dX2_areAlike_15 rfl (bI_01 _) ⟨rfl, rfl⟩ rfl
def rX2_isTwin (s : Nat) (x1 : Int32) (σ : Sg) : Bool := rX3_isLike (65 + 7 * s) (65 + 7 * s + 1) (65 + 7 * s + 2) (65 + 7 * s + 3) (65 + 7 * s + 4) (65 + 7 * s + 5) (65 + 7 * s + 6) 53 54 55 56 57 58 59 (sX3_lookAt 53 54 55 56 57 58 59 60 (sX6_turnBack 60 (sX6_copyFrom 60 (65 + 7 * s + 1) σ)))
def sX2_isTwin (s : Nat) (x1 : Int32) (σ : Sg) : Sg := sX3_lookAt 53 54 55 56 57 58 59 60 (sX6_turnBack 60 (sX6_copyFrom 60 (65 + 7 * s + 1) σ))
set_option maxRecDepth 100000 in
set_option maxHeartbeats 4000000 in
theorem ev_X2_isTwin {l : Launch} {b : Nat} {cy : Nat → ClassId} {D : va_G} {d : Nat} {s : Nat} {x1 : Int32} {σ : Sg}  (q1 : x1 = nI s) (hs : s < 12) (w1 : WOk σ (65 + 7 * s + 2)) (w2 : WOk σ 55) : Es l b cy D (d + 5) yX2_isTwin cX2_isTwin (Option.some Jvm.ClassFile.FieldType.boolean) 2 [.ref (b + 51), .int (x1)] σ (some (.int (bI (rX2_isTwin s x1 σ)))) (sX2_isTwin s x1 σ) := by
  refine Ev.of (by decide) (Nat.le_of_ble_eq_true rfl) rfl ?_
  refine g_aload_n (pc' := 1) dX2_isTwin_0 rfl 0 rfl rfl ?_
  refine g_getR (pc' := 4) (a := 60) dX2_isTwin_1 rfl (PLk.lf fX2_25) o51 rfl ?_
  refine g_aload_n (pc' := 5) dX2_isTwin_4 rfl 0 rfl rfl ?_
  refine g_getR (pc' := 8) (a := 52) dX2_isTwin_5 rfl (PLk.lf fX2_11) o51 rfl ?_
  refine g_iload_n (pc' := 9) dX2_isTwin_8 rfl 1 rfl rfl ?_
  refine g_aald (pc' := 10) (j := s) (a := (65 + 7 * s)) dX2_isTwin_9 rfl o52 (by decide) rfl (by decide) q1 hs (ak _ hs) ?_
  refine g_getR (pc' := 13) (a := (65 + 7 * s + 1)) dX2_isTwin_10 rfl (PLk.lf fX2_63) (kiN _ hs).1 rfl ?_
  refine g_callv (pc' := 16) dX2_isTwin_13 rfl mX2_66 (ev_X6_copyFrom (k := 60) (i := (65 + 7 * s + 1)) (σ := σ) o60 (kiN _ hs).2.1 (d := d + 4)) o60 rfl (rm_ok (by omega) (by decide)) ⟨rfl, rfl⟩ ⟨Nat.zero_le _, Nat.zero_le _⟩ rfl rfl (Nat.le_of_ble_eq_true rfl) ?_
  refine g_aload_n (pc' := 17) dX2_isTwin_16 rfl 0 rfl rfl ?_
  refine g_getR (pc' := 20) (a := 60) dX2_isTwin_17 rfl (PLk.lf fX2_25) o51 rfl ?_
  refine g_callv (pc' := 23) dX2_isTwin_20 rfl mX2_69 (ev_X6_turnBack (k := 60) (σ := sX6_copyFrom 60 (65 + 7 * s + 1) σ) o60 (d := d + 3)) o60 rfl (rm_ok (by omega) (by decide)) ⟨rfl, rfl⟩ ⟨Nat.zero_le _, Nat.zero_le _⟩ rfl rfl (Nat.le_of_ble_eq_true rfl) ?_
  refine g_aload_n (pc' := 24) dX2_isTwin_23 rfl 0 rfl rfl ?_
  refine g_getR (pc' := 27) (a := 53) dX2_isTwin_24 rfl (PLk.lf fX2_18) o51 rfl ?_
  refine g_aload_n (pc' := 28) dX2_isTwin_27 rfl 0 rfl rfl ?_
  refine g_getR (pc' := 31) (a := 60) dX2_isTwin_28 rfl (PLk.lf fX2_25) o51 rfl ?_
  refine g_callv (pc' := 34) dX2_isTwin_31 rfl mX2_55 (ev_X3_lookAt (k := 53) (s := 54) (h := 55) (r := 56) (e := 57) (w := 58) (p := 59) (i := 60) (σ := sX6_turnBack 60 (sX6_copyFrom 60 (65 + 7 * s + 1) σ)) ki53 o60 (d := d)) o53 rfl (rm_ok (by omega) (by decide)) ⟨rfl, rfl⟩ ⟨Nat.zero_le _, Nat.zero_le _⟩ rfl rfl (Nat.le_of_ble_eq_true rfl) ?_
  refine g_aload_n (pc' := 35) dX2_isTwin_34 rfl 0 rfl rfl ?_
  refine g_getR (pc' := 38) (a := 52) dX2_isTwin_35 rfl (PLk.lf fX2_11) o51 rfl ?_
  refine g_iload_n (pc' := 39) dX2_isTwin_38 rfl 1 rfl rfl ?_
  refine g_aald (pc' := 40) (j := s) (a := (65 + 7 * s)) dX2_isTwin_39 rfl o52 (by decide) rfl (by decide) q1 hs (ak _ hs) ?_
  refine g_aload_n (pc' := 41) dX2_isTwin_40 rfl 0 rfl rfl ?_
  refine g_getR (pc' := 44) (a := 53) dX2_isTwin_41 rfl (PLk.lf fX2_18) o51 rfl ?_
  refine g_callr (pc' := 47) dX2_isTwin_44 rfl mX2_59 (ev_X3_isLike (k := (65 + 7 * s)) (s := (65 + 7 * s + 1)) (h := (65 + 7 * s + 2)) (r := (65 + 7 * s + 3)) (e := (65 + 7 * s + 4)) (w := (65 + 7 * s + 5)) (p := (65 + 7 * s + 6)) (i := 53) (s2 := 54) (h2 := 55) (r2 := 56) (e2 := 57) (w2 := 58) (p2 := 59) (σ := sX3_lookAt 53 54 55 56 57 58 59 60 (sX6_turnBack 60 (sX6_copyFrom 60 (65 + 7 * s + 1) σ))) (kiN _ hs) ki53 (WOk.fr (look_1 (by omega) (by omega) (by omega)) (WOk.fr rfl w1)) (look_ok (by decide) (WOk.fr rfl w2)) (d := d + 2)) (kiN _ hs).1 rfl (rm_ok (by omega) (by decide)) ⟨rfl, rfl⟩ ⟨Nat.zero_le _, Nat.zero_le _⟩ rfl rfl (Nat.le_of_ble_eq_true rfl) ?_
  exact g_zret dX2_isTwin_47 rfl (bI_01 _) ⟨rfl, rfl⟩ rfl
def rX2_isLikeMirrored (s : Nat) (x1 : Int32) (σ : Sg) : Bool := rX3_isLike (65 + 7 * s) (65 + 7 * s + 1) (65 + 7 * s + 2) (65 + 7 * s + 3) (65 + 7 * s + 4) (65 + 7 * s + 5) (65 + 7 * s + 6) 53 54 55 56 57 58 59 (sX3_lookAt 53 54 55 56 57 58 59 60 (sX6_mirror 60 (sX6_copyFrom 60 (65 + 7 * s + 1) σ)))
def sX2_isLikeMirrored (s : Nat) (x1 : Int32) (σ : Sg) : Sg := sX3_lookAt 53 54 55 56 57 58 59 60 (sX6_mirror 60 (sX6_copyFrom 60 (65 + 7 * s + 1) σ))
set_option maxRecDepth 100000 in
set_option maxHeartbeats 4000000 in
theorem ev_X2_isLikeMirrored {l : Launch} {b : Nat} {cy : Nat → ClassId} {D : va_G} {d : Nat} {s : Nat} {x1 : Int32} {σ : Sg}  (q1 : x1 = nI s) (hs : s < 12) (w1 : WOk σ (65 + 7 * s + 2)) (w2 : WOk σ 55) : Es l b cy D (d + 5) yX2_isLikeMirrored cX2_isLikeMirrored (Option.some Jvm.ClassFile.FieldType.boolean) 2 [.ref (b + 51), .int (x1)] σ (some (.int (bI (rX2_isLikeMirrored s x1 σ)))) (sX2_isLikeMirrored s x1 σ) := by
  refine Ev.of (by decide) (Nat.le_of_ble_eq_true rfl) rfl ?_
  refine g_aload_n (pc' := 1) dX2_isLikeMirrored_0 rfl 0 rfl rfl ?_
  refine g_getR (pc' := 4) (a := 60) dX2_isLikeMirrored_1 rfl (PLk.lf fX2_25) o51 rfl ?_
  refine g_aload_n (pc' := 5) dX2_isLikeMirrored_4 rfl 0 rfl rfl ?_
  refine g_getR (pc' := 8) (a := 52) dX2_isLikeMirrored_5 rfl (PLk.lf fX2_11) o51 rfl ?_
  refine g_iload_n (pc' := 9) dX2_isLikeMirrored_8 rfl 1 rfl rfl ?_
  refine g_aald (pc' := 10) (j := s) (a := (65 + 7 * s)) dX2_isLikeMirrored_9 rfl o52 (by decide) rfl (by decide) q1 hs (ak _ hs) ?_
  refine g_getR (pc' := 13) (a := (65 + 7 * s + 1)) dX2_isLikeMirrored_10 rfl (PLk.lf fX2_63) (kiN _ hs).1 rfl ?_
  refine g_callv (pc' := 16) dX2_isLikeMirrored_13 rfl mX2_66 (ev_X6_copyFrom (k := 60) (i := (65 + 7 * s + 1)) (σ := σ) o60 (kiN _ hs).2.1 (d := d + 4)) o60 rfl (rm_ok (by omega) (by decide)) ⟨rfl, rfl⟩ ⟨Nat.zero_le _, Nat.zero_le _⟩ rfl rfl (Nat.le_of_ble_eq_true rfl) ?_
  refine g_aload_n (pc' := 17) dX2_isLikeMirrored_16 rfl 0 rfl rfl ?_
  refine g_getR (pc' := 20) (a := 60) dX2_isLikeMirrored_17 rfl (PLk.lf fX2_25) o51 rfl ?_
  refine g_callv (pc' := 23) dX2_isLikeMirrored_20 rfl mX2_72 (ev_X6_mirror (k := 60) (σ := sX6_copyFrom 60 (65 + 7 * s + 1) σ) o60 (d := d + 3)) o60 rfl (rm_ok (by omega) (by decide)) ⟨rfl, rfl⟩ ⟨Nat.zero_le _, Nat.zero_le _⟩ rfl rfl (Nat.le_of_ble_eq_true rfl) ?_
  refine g_aload_n (pc' := 24) dX2_isLikeMirrored_23 rfl 0 rfl rfl ?_
  refine g_getR (pc' := 27) (a := 53) dX2_isLikeMirrored_24 rfl (PLk.lf fX2_18) o51 rfl ?_
  refine g_aload_n (pc' := 28) dX2_isLikeMirrored_27 rfl 0 rfl rfl ?_
  refine g_getR (pc' := 31) (a := 60) dX2_isLikeMirrored_28 rfl (PLk.lf fX2_25) o51 rfl ?_
  refine g_callv (pc' := 34) dX2_isLikeMirrored_31 rfl mX2_55 (ev_X3_lookAt (k := 53) (s := 54) (h := 55) (r := 56) (e := 57) (w := 58) (p := 59) (i := 60) (σ := sX6_mirror 60 (sX6_copyFrom 60 (65 + 7 * s + 1) σ)) ki53 o60 (d := d)) o53 rfl (rm_ok (by omega) (by decide)) ⟨rfl, rfl⟩ ⟨Nat.zero_le _, Nat.zero_le _⟩ rfl rfl (Nat.le_of_ble_eq_true rfl) ?_
  refine g_aload_n (pc' := 35) dX2_isLikeMirrored_34 rfl 0 rfl rfl ?_
  refine g_getR (pc' := 38) (a := 52) dX2_isLikeMirrored_35 rfl (PLk.lf fX2_11) o51 rfl ?_
  refine g_iload_n (pc' := 39) dX2_isLikeMirrored_38 rfl 1 rfl rfl ?_
  refine g_aald (pc' := 40) (j := s) (a := (65 + 7 * s)) dX2_isLikeMirrored_39 rfl o52 (by decide) rfl (by decide) q1 hs (ak _ hs) ?_
  refine g_aload_n (pc' := 41) dX2_isLikeMirrored_40 rfl 0 rfl rfl ?_
  refine g_getR (pc' := 44) (a := 53) dX2_isLikeMirrored_41 rfl (PLk.lf fX2_18) o51 rfl ?_
  refine g_callr (pc' := 47) dX2_isLikeMirrored_44 rfl mX2_59 (ev_X3_isLike (k := (65 + 7 * s)) (s := (65 + 7 * s + 1)) (h := (65 + 7 * s + 2)) (r := (65 + 7 * s + 3)) (e := (65 + 7 * s + 4)) (w := (65 + 7 * s + 5)) (p := (65 + 7 * s + 6)) (i := 53) (s2 := 54) (h2 := 55) (r2 := 56) (e2 := 57) (w2 := 58) (p2 := 59) (σ := sX3_lookAt 53 54 55 56 57 58 59 60 (sX6_mirror 60 (sX6_copyFrom 60 (65 + 7 * s + 1) σ))) (kiN _ hs) ki53 (WOk.fr (look_1 (by omega) (by omega) (by omega)) (WOk.fr rfl w1)) (look_ok (by decide) (WOk.fr rfl w2)) (d := d + 2)) (kiN _ hs).1 rfl (rm_ok (by omega) (by decide)) ⟨rfl, rfl⟩ ⟨Nat.zero_le _, Nat.zero_le _⟩ rfl rfl (Nat.le_of_ble_eq_true rfl) ?_
  exact g_zret dX2_isLikeMirrored_47 rfl (bI_01 _) ⟨rfl, rfl⟩ rfl
def rX2_goTogether (s : Nat) (u : Nat) (x1 : Int32) (x2 : Int32) (σ : Sg) : Bool := rX6_isSameAs 61 62 (sX6_setProduct 62 (65 + 7 * u + 1) (65 + 7 * s + 1) (sX6_setProduct 61 (65 + 7 * s + 1) (65 + 7 * u + 1) σ))
def sX2_goTogether (s : Nat) (u : Nat) (x1 : Int32) (x2 : Int32) (σ : Sg) : Sg := sX6_setProduct 62 (65 + 7 * u + 1) (65 + 7 * s + 1) (sX6_setProduct 61 (65 + 7 * s + 1) (65 + 7 * u + 1) σ)
set_option maxRecDepth 100000 in
set_option maxHeartbeats 4000000 in
theorem ev_X2_goTogether {l : Launch} {b : Nat} {cy : Nat → ClassId} {D : va_G} {d : Nat} {s : Nat} {u : Nat} {x1 : Int32} {x2 : Int32} {σ : Sg}  (q1 : x1 = nI s) (hs : s < 12) (q2 : x2 = nI u) (hu : u < 12) : Es l b cy D (d + 2) yX2_goTogether cX2_goTogether (Option.some Jvm.ClassFile.FieldType.boolean) 3 [.ref (b + 51), .int (x1), .int (x2)] σ (some (.int (bI (rX2_goTogether s u x1 x2 σ)))) (sX2_goTogether s u x1 x2 σ) := by
  refine Ev.of (by decide) (Nat.le_of_ble_eq_true rfl) rfl ?_
  refine g_aload_n (pc' := 1) dX2_goTogether_0 rfl 0 rfl rfl ?_
  refine g_getR (pc' := 4) (a := 61) dX2_goTogether_1 rfl (PLk.lf fX2_29) o51 rfl ?_
  refine g_aload_n (pc' := 5) dX2_goTogether_4 rfl 0 rfl rfl ?_
  refine g_getR (pc' := 8) (a := 52) dX2_goTogether_5 rfl (PLk.lf fX2_11) o51 rfl ?_
  refine g_iload_n (pc' := 9) dX2_goTogether_8 rfl 1 rfl rfl ?_
  refine g_aald (pc' := 10) (j := s) (a := (65 + 7 * s)) dX2_goTogether_9 rfl o52 (by decide) rfl (by decide) q1 hs (ak _ hs) ?_
  refine g_getR (pc' := 13) (a := (65 + 7 * s + 1)) dX2_goTogether_10 rfl (PLk.lf fX2_63) (kiN _ hs).1 rfl ?_
  refine g_aload_n (pc' := 14) dX2_goTogether_13 rfl 0 rfl rfl ?_
  refine g_getR (pc' := 17) (a := 52) dX2_goTogether_14 rfl (PLk.lf fX2_11) o51 rfl ?_
  refine g_iload_n (pc' := 18) dX2_goTogether_17 rfl 2 rfl rfl ?_
  refine g_aald (pc' := 19) (j := u) (a := (65 + 7 * u)) dX2_goTogether_18 rfl o52 (by decide) rfl (by decide) q2 hu (ak _ hu) ?_
  refine g_getR (pc' := 22) (a := (65 + 7 * u + 1)) dX2_goTogether_19 rfl (PLk.lf fX2_63) (kiN _ hu).1 rfl ?_
  refine g_callv (pc' := 25) dX2_goTogether_22 rfl mX2_95 (ev_X6_setProduct (k := 61) (i := (65 + 7 * s + 1)) (j := (65 + 7 * u + 1)) (σ := σ) o61 (kiN _ hs).2.1 (kiN _ hu).2.1 (d := d)) o61 rfl (rm_ok (by omega) (by decide)) ⟨rfl, rfl⟩ ⟨Nat.zero_le _, Nat.zero_le _⟩ rfl rfl (Nat.le_of_ble_eq_true rfl) ?_
  refine g_aload_n (pc' := 26) dX2_goTogether_25 rfl 0 rfl rfl ?_
  refine g_getR (pc' := 29) (a := 62) dX2_goTogether_26 rfl (PLk.lf fX2_32) o51 rfl ?_
  refine g_aload_n (pc' := 30) dX2_goTogether_29 rfl 0 rfl rfl ?_
  refine g_getR (pc' := 33) (a := 52) dX2_goTogether_30 rfl (PLk.lf fX2_11) o51 rfl ?_
  refine g_iload_n (pc' := 34) dX2_goTogether_33 rfl 2 rfl rfl ?_
  refine g_aald (pc' := 35) (j := u) (a := (65 + 7 * u)) dX2_goTogether_34 rfl o52 (by decide) rfl (by decide) q2 hu (ak _ hu) ?_
  refine g_getR (pc' := 38) (a := (65 + 7 * u + 1)) dX2_goTogether_35 rfl (PLk.lf fX2_63) (kiN _ hu).1 rfl ?_
  refine g_aload_n (pc' := 39) dX2_goTogether_38 rfl 0 rfl rfl ?_
  refine g_getR (pc' := 42) (a := 52) dX2_goTogether_39 rfl (PLk.lf fX2_11) o51 rfl ?_
  refine g_iload_n (pc' := 43) dX2_goTogether_42 rfl 1 rfl rfl ?_
  refine g_aald (pc' := 44) (j := s) (a := (65 + 7 * s)) dX2_goTogether_43 rfl o52 (by decide) rfl (by decide) q1 hs (ak _ hs) ?_
  refine g_getR (pc' := 47) (a := (65 + 7 * s + 1)) dX2_goTogether_44 rfl (PLk.lf fX2_63) (kiN _ hs).1 rfl ?_
  refine g_callv (pc' := 50) dX2_goTogether_47 rfl mX2_95 (ev_X6_setProduct (k := 62) (i := (65 + 7 * u + 1)) (j := (65 + 7 * s + 1)) (σ := sX6_setProduct 61 (65 + 7 * s + 1) (65 + 7 * u + 1) σ) o62 (kiN _ hu).2.1 (kiN _ hs).2.1 (d := d)) o62 rfl (rm_ok (by omega) (by decide)) ⟨rfl, rfl⟩ ⟨Nat.zero_le _, Nat.zero_le _⟩ rfl rfl (Nat.le_of_ble_eq_true rfl) ?_
  refine g_aload_n (pc' := 51) dX2_goTogether_50 rfl 0 rfl rfl ?_
  refine g_getR (pc' := 54) (a := 61) dX2_goTogether_51 rfl (PLk.lf fX2_29) o51 rfl ?_
  refine g_aload_n (pc' := 55) dX2_goTogether_54 rfl 0 rfl rfl ?_
  refine g_getR (pc' := 58) (a := 62) dX2_goTogether_55 rfl (PLk.lf fX2_32) o51 rfl ?_
  refine g_callr (pc' := 61) dX2_goTogether_58 rfl mX2_99 (ev_X6_isSameAs (k := 61) (i := 62) (σ := sX6_setProduct 62 (65 + 7 * u + 1) (65 + 7 * s + 1) (sX6_setProduct 61 (65 + 7 * s + 1) (65 + 7 * u + 1) σ)) o61 o62 (d := d + 1)) o61 rfl (rm_ok (by omega) (by decide)) ⟨rfl, rfl⟩ ⟨Nat.zero_le _, Nat.zero_le _⟩ rfl rfl (Nat.le_of_ble_eq_true rfl) ?_
  exact g_zret dX2_goTogether_61 rfl (bI_01 _) ⟨rfl, rfl⟩ rfl
def al (σ : Sg) (s u : Nat) : Bool := rX2_areAlike s u (nI s) (nI u) σ
def famF (σ : Sg) (s : Nat) : Nat → Nat → Int32 → Int32
  | 0, _, a => a
  | m + 1, u, a => famF σ s m (u + 1) (if al σ s u = true then a ||| (1 <<< (nI u &&& 31)) else a)
def WAll (σ : Sg) : Prop := ∀ s, s < 12 → WOk σ (65 + 7 * s + 2)
set_option maxRecDepth 100000 in
set_option maxHeartbeats 4000000 in
theorem lp_fam {l : Launch} {b : Nat} {cy : Nat → ClassId} {D : va_G} {d : Nat}   {n s : Nat} {σ : Sg}  (hs : s < 12) (hz : σ.1 51 6 = nI n) (hn : n ≤ 12) (hw : WAll σ) : ∀ (m : Nat) (u : Nat) (a : Int32), u + m = n → Gs l b cy D (d + 4) yX2_familyOf cX2_familyOf (Option.some Jvm.ClassFile.FieldType.int) 4 (some (.int (famF σ s m u a))) σ 4 [(0, .ref (b + 51)), (1, .int (nI s)), (2, .int (a)), (3, .int (nI u))] [] σ := by
  intro m
  induction m with
  | zero =>
    intro u a hu
    refine g_iload_n (pc' := 5) dX2_familyOf_4 rfl 3 rfl rfl ?_
    refine g_aload_n (pc' := 6) dX2_familyOf_5 rfl 0 rfl rfl ?_
    refine g_getI (pc' := 9) dX2_familyOf_6 rfl (PLk.lf fX2_42) o51 rfl ?_
    refine g_icmp_ge (pc' := 12) (tgt := 33) dX2_familyOf_9 rfl (by decide) (fun (c1 : (σ.1 51 6 : Int32) ≤ (nI u)) => ?_) (fun (c1 : ¬ (σ.1 51 6 : Int32) ≤ (nI u)) => ?_)
    · refine g_iload_n (pc' := 34) dX2_familyOf_33 rfl 2 rfl rfl ?_
      exact g_iret dX2_familyOf_34 rfl ⟨rfl, rfl⟩ rfl
    · exact absurd (show σ.1 51 6 ≤ nI u from by rw [hz]; exact (nI_leI (by omega) (by omega)).mpr (by omega)) c1
  | succ m ih =>
    intro u a hu
    refine g_iload_n (pc' := 5) dX2_familyOf_4 rfl 3 rfl rfl ?_
    refine g_aload_n (pc' := 6) dX2_familyOf_5 rfl 0 rfl rfl ?_
    refine g_getI (pc' := 9) dX2_familyOf_6 rfl (PLk.lf fX2_42) o51 rfl ?_
    refine g_icmp_ge (pc' := 12) (tgt := 33) dX2_familyOf_9 rfl (by decide) (fun (c1 : (σ.1 51 6 : Int32) ≤ (nI u)) => ?_) (fun (c1 : ¬ (σ.1 51 6 : Int32) ≤ (nI u)) => ?_)
    · exact absurd (nle (a := n) (c := u) c1 hz rfl (by omega) (by omega)) (by omega)
    · refine g_aload_n (pc' := 13) dX2_familyOf_12 rfl 0 rfl rfl ?_
      refine g_iload_n (pc' := 14) dX2_familyOf_13 rfl 1 rfl rfl ?_
      refine g_iload_n (pc' := 15) dX2_familyOf_14 rfl 3 rfl rfl ?_
      refine g_callr (pc' := 18) dX2_familyOf_15 rfl mX2_79 (ev_X2_areAlike (s := s) (u := u) (x1 := nI s) (x2 := nI u) (σ := σ) rfl hs rfl (by omega) (hw s hs) (hw u (by omega)) (d := d)) o51 rfl (rm_ok (by omega) (by decide)) ⟨rfl, rfl⟩ ⟨Nat.zero_le _, Nat.zero_le _⟩ rfl rfl (Nat.le_of_ble_eq_true rfl) ?_
      refine g_ifb_eq (pc' := 21) (tgt := 27) dX2_familyOf_18 rfl (by decide) (fun (c2 : (rX2_areAlike s u (nI s) (nI u) σ) = false) => ?_) (fun (c2 : (rX2_areAlike s u (nI s) (nI u) σ) = true) => ?_)
      · refine g_iinc (pc' := 30) (v := nI (u + 1)) (lv' := [(3, .int (nI (u + 1))), (0, .ref (b + 51)), (1, .int (nI s)), (2, .int (a))]) dX2_familyOf_27 rfl 3 rfl (nI_1 u) (by decide) rfl ?_
        refine g_goto (tgt := 4) dX2_familyOf_30 (by decide) ?_
        rw [show famF σ s (m + 1) u a = famF σ s m (u + 1) a by rw [famF, show al σ s u = rX2_areAlike s u (nI s) (nI u) σ from rfl, if_neg (bf c2)]]
        refine g_sub [1, 2, 3, 0] rfl ?_
        exact ih (u + 1) _ (by omega)
      · refine g_iload_n (pc' := 22) dX2_familyOf_21 rfl 2 rfl rfl ?_
        refine g_iconst (pc' := 23) (v := 1) dX2_familyOf_22 rfl (by decide) ?_
        refine g_iload_n (pc' := 24) dX2_familyOf_23 rfl 3 rfl rfl ?_
        refine g_ishl (pc' := 25) dX2_familyOf_24 rfl ?_
        refine g_ior (pc' := 26) dX2_familyOf_25 rfl ?_
        refine g_istore_n (pc' := 27) (j := 2) (lv' := [(2, .int (a ||| (1 <<< ((nI u) &&& 31)))), (0, .ref (b + 51)), (1, .int (nI s)), (3, .int (nI u))]) dX2_familyOf_26 rfl rfl (by decide) rfl ?_
        refine g_iinc (pc' := 30) (v := nI (u + 1)) (lv' := [(3, .int (nI (u + 1))), (2, .int (a ||| (1 <<< ((nI u) &&& 31)))), (0, .ref (b + 51)), (1, .int (nI s))]) dX2_familyOf_27 rfl 3 rfl (nI_1 u) (by decide) rfl ?_
        refine g_goto (tgt := 4) dX2_familyOf_30 (by decide) ?_
        rw [show famF σ s (m + 1) u a = famF σ s m (u + 1) (a ||| (1 <<< ((nI u) &&& 31))) by rw [famF, show al σ s u = rX2_areAlike s u (nI s) (nI u) σ from rfl, if_pos c2]]
        refine g_sub [2, 3, 1, 0] rfl ?_
        exact ih (u + 1) _ (by omega)
set_option maxRecDepth 100000 in
set_option maxHeartbeats 4000000 in
theorem ev_X2_familyOf {l : Launch} {b : Nat} {cy : Nat → ClassId} {D : va_G} {d : Nat}  {x1 : Int32} {s : Nat} {n : Nat} {σ : Sg}  (q1 : x1 = nI s) (hs : s < 12) (hz : σ.1 51 6 = nI n) (hn : n ≤ 12) (hw : WAll σ) : Es l b cy D (d + 4) yX2_familyOf cX2_familyOf (Option.some Jvm.ClassFile.FieldType.int) 4 [.ref (b + 51), .int (x1)] σ (some (.int (famF σ s n 0 0))) σ := by
  refine Ev.of (by decide) (Nat.le_of_ble_eq_true rfl) rfl ?_
  refine g_iconst (pc' := 1) (v := 0) dX2_familyOf_0 rfl (by decide) ?_
  refine g_istore_n (pc' := 2) (j := 2) (lv' := [(2, .int (0)), (0, .ref (b + 51)), (1, .int (x1))]) dX2_familyOf_1 rfl rfl (by decide) rfl ?_
  refine g_iconst (pc' := 3) (v := 0) dX2_familyOf_2 rfl (by decide) ?_
  refine g_istore_n (pc' := 4) (j := 3) (lv' := [(3, .int (0)), (2, .int (0)), (0, .ref (b + 51)), (1, .int (x1))]) dX2_familyOf_3 rfl rfl (by decide) rfl ?_
  subst q1
  refine g_sub [2, 3, 1, 0] rfl ?_
  exact lp_fam hs hz hn hw n 0 0 (by omega)
def cfaF (σ : Sg) (n : Nat) : Nat → Nat → Int32 → Int32
  | 0, _, a => a
  | m + 1, u, a => cfaF σ n m (u + 1) (if rJ6_numberOfTrailingZeros_0f7a4 (famF σ u n 0 0) σ = nI u then a + 1 else a)
def gfaF (σ : Sg) (n : Nat) : Nat → Nat → Int32 → Int32
  | 0, _, a => a
  | m + 1, u, a => gfaF σ n m (u + 1) (if rJ6_bitCount_0f7a4 (famF σ u n 0 0) σ ≤ rJ6_bitCount_0f7a4 a σ then a else famF σ u n 0 0)
set_option maxRecDepth 100000 in
set_option maxHeartbeats 4000000 in
theorem lp_cfa {l : Launch} {b : Nat} {cy : Nat → ClassId} {D : va_G} {d : Nat}   {n : Nat} {σ : Sg}  (hz : σ.1 51 6 = nI n) (hn : n ≤ 12) (hw : WAll σ) : ∀ (m : Nat) (u : Nat) (a : Int32), u + m = n → Gs l b cy D (d + 5) yX2_countFamilies cX2_countFamilies (Option.some Jvm.ClassFile.FieldType.int) 3 (some (.int (cfaF σ n m u a))) σ 4 [(0, .ref (b + 51)), (1, .int (a)), (2, .int (nI u))] [] σ := by
  intro m
  induction m with
  | zero =>
    intro u a hu
    refine g_iload_n (pc' := 5) dX2_countFamilies_4 rfl 2 rfl rfl ?_
    refine g_aload_n (pc' := 6) dX2_countFamilies_5 rfl 0 rfl rfl ?_
    refine g_getI (pc' := 9) dX2_countFamilies_6 rfl (PLk.lf fX2_42) o51 rfl ?_
    refine g_icmp_ge (pc' := 12) (tgt := 33) dX2_countFamilies_9 rfl (by decide) (fun (c1 : (σ.1 51 6 : Int32) ≤ (nI u)) => ?_) (fun (c1 : ¬ (σ.1 51 6 : Int32) ≤ (nI u)) => ?_)
    · refine g_iload_n (pc' := 34) dX2_countFamilies_33 rfl 1 rfl rfl ?_
      exact g_iret dX2_countFamilies_34 rfl ⟨rfl, rfl⟩ rfl
    · exact absurd (show σ.1 51 6 ≤ nI u from by rw [hz]; exact (nI_leI (by omega) (by omega)).mpr (by omega)) c1
  | succ m ih =>
    intro u a hu
    refine g_iload_n (pc' := 5) dX2_countFamilies_4 rfl 2 rfl rfl ?_
    refine g_aload_n (pc' := 6) dX2_countFamilies_5 rfl 0 rfl rfl ?_
    refine g_getI (pc' := 9) dX2_countFamilies_6 rfl (PLk.lf fX2_42) o51 rfl ?_
    refine g_icmp_ge (pc' := 12) (tgt := 33) dX2_countFamilies_9 rfl (by decide) (fun (c1 : (σ.1 51 6 : Int32) ≤ (nI u)) => ?_) (fun (c1 : ¬ (σ.1 51 6 : Int32) ≤ (nI u)) => ?_)
    · exact absurd (nle (a := n) (c := u) c1 hz rfl (by omega) (by omega)) (by omega)
    · refine g_aload_n (pc' := 13) dX2_countFamilies_12 rfl 0 rfl rfl ?_
      refine g_iload_n (pc' := 14) dX2_countFamilies_13 rfl 2 rfl rfl ?_
      refine g_callr (pc' := 17) dX2_countFamilies_14 rfl mX2_83 (ev_X2_familyOf (x1 := nI u) (s := u) (n := n) (σ := σ) rfl (by omega) hz hn hw (d := d)) o51 rfl (rm_ok (by omega) (by decide)) ⟨rfl, rfl⟩ ⟨Nat.zero_le _, Nat.zero_le _⟩ rfl rfl (Nat.le_of_ble_eq_true rfl) ?_
      refine g_callsr (pc' := 20) dX2_countFamilies_17 rfl mX2_87 (ev_J6_numberOfTrailingZeros_0f7a4 (x1 := famF σ u n 0 0) (σ := σ)  (d := d + 4)) (rm_ok (by omega) (by decide)) ⟨rfl, rfl⟩ ⟨Nat.zero_le _, Nat.zero_le _⟩ rfl rfl (Nat.le_of_ble_eq_true rfl) ?_
      refine g_iload_n (pc' := 21) dX2_countFamilies_20 rfl 2 rfl rfl ?_
      refine g_icmp_ne (pc' := 24) (tgt := 27) dX2_countFamilies_21 rfl (by decide) (fun (c2 : ¬ (rJ6_numberOfTrailingZeros_0f7a4 (famF σ u n 0 0) σ : Int32) = (nI u)) => ?_) (fun (c2 : (rJ6_numberOfTrailingZeros_0f7a4 (famF σ u n 0 0) σ : Int32) = (nI u)) => ?_)
      · refine g_iinc (pc' := 30) (v := nI (u + 1)) (lv' := [(2, .int (nI (u + 1))), (0, .ref (b + 51)), (1, .int (a))]) dX2_countFamilies_27 rfl 2 rfl (nI_1 u) (by decide) rfl ?_
        refine g_goto (tgt := 4) dX2_countFamilies_30 (by decide) ?_
        rw [show cfaF σ n (m + 1) u a = cfaF σ n m (u + 1) a by rw [cfaF, if_neg c2]]
        refine g_sub [1, 2, 0] rfl ?_
        exact ih (u + 1) _ (by omega)
      · refine g_iinc (pc' := 27) (v := a + 1) (lv' := [(1, .int (a + 1)), (0, .ref (b + 51)), (2, .int (nI u))]) dX2_countFamilies_24 rfl 1 rfl rfl (by decide) rfl ?_
        refine g_iinc (pc' := 30) (v := nI (u + 1)) (lv' := [(2, .int (nI (u + 1))), (1, .int (a + 1)), (0, .ref (b + 51))]) dX2_countFamilies_27 rfl 2 rfl (nI_1 u) (by decide) rfl ?_
        refine g_goto (tgt := 4) dX2_countFamilies_30 (by decide) ?_
        rw [show cfaF σ n (m + 1) u a = cfaF σ n m (u + 1) (a + 1) by rw [cfaF, if_pos c2]]
        refine g_sub [2, 1, 0] rfl ?_
        exact ih (u + 1) _ (by omega)
set_option maxRecDepth 100000 in
set_option maxHeartbeats 4000000 in
theorem ev_X2_countFamilies {l : Launch} {b : Nat} {cy : Nat → ClassId} {D : va_G} {d : Nat}   {n : Nat} {σ : Sg}  (hz : σ.1 51 6 = nI n) (hn : n ≤ 12) (hw : WAll σ) : Es l b cy D (d + 5) yX2_countFamilies cX2_countFamilies (Option.some Jvm.ClassFile.FieldType.int) 3 [.ref (b + 51)] σ (some (.int (cfaF σ n n 0 0))) σ := by
  refine Ev.of (by decide) (Nat.le_of_ble_eq_true rfl) rfl ?_
  refine g_iconst (pc' := 1) (v := 0) dX2_countFamilies_0 rfl (by decide) ?_
  refine g_istore_n (pc' := 2) (j := 1) (lv' := [(1, .int (0)), (0, .ref (b + 51))]) dX2_countFamilies_1 rfl rfl (by decide) rfl ?_
  refine g_iconst (pc' := 3) (v := 0) dX2_countFamilies_2 rfl (by decide) ?_
  refine g_istore_n (pc' := 4) (j := 2) (lv' := [(2, .int (0)), (1, .int (0)), (0, .ref (b + 51))]) dX2_countFamilies_3 rfl rfl (by decide) rfl ?_
  refine g_sub [2, 1, 0] rfl ?_
  exact lp_cfa hz hn hw n 0 0 (by omega)
set_option maxRecDepth 100000 in
set_option maxHeartbeats 4000000 in
theorem lp_gfa {l : Launch} {b : Nat} {cy : Nat → ClassId} {D : va_G} {d : Nat}   {n : Nat} {σ : Sg}  (hz : σ.1 51 6 = nI n) (hn : n ≤ 12) (hw : WAll σ) : ∀ (m : Nat) (u : Nat) (a : Int32), u + m = n → Gs l b cy D (d + 5) yX2_greatestFamily cX2_greatestFamily (Option.some Jvm.ClassFile.FieldType.int) 4 (some (.int (gfaF σ n m u a))) σ 4 [(0, .ref (b + 51)), (1, .int (a)), (2, .int (nI u))] [] σ := by
  intro m
  induction m with
  | zero =>
    intro u a hu
    refine g_iload_n (pc' := 5) dX2_greatestFamily_4 rfl 2 rfl rfl ?_
    refine g_aload_n (pc' := 6) dX2_greatestFamily_5 rfl 0 rfl rfl ?_
    refine g_getI (pc' := 9) dX2_greatestFamily_6 rfl (PLk.lf fX2_42) o51 rfl ?_
    refine g_icmp_ge (pc' := 12) (tgt := 37) dX2_greatestFamily_9 rfl (by decide) (fun (c1 : (σ.1 51 6 : Int32) ≤ (nI u)) => ?_) (fun (c1 : ¬ (σ.1 51 6 : Int32) ≤ (nI u)) => ?_)
    · refine g_iload_n (pc' := 38) dX2_greatestFamily_37 rfl 1 rfl rfl ?_
      exact g_iret dX2_greatestFamily_38 rfl ⟨rfl, rfl⟩ rfl
    · exact absurd (show σ.1 51 6 ≤ nI u from by rw [hz]; exact (nI_leI (by omega) (by omega)).mpr (by omega)) c1
  | succ m ih =>
    intro u a hu
    refine g_iload_n (pc' := 5) dX2_greatestFamily_4 rfl 2 rfl rfl ?_
    refine g_aload_n (pc' := 6) dX2_greatestFamily_5 rfl 0 rfl rfl ?_
    refine g_getI (pc' := 9) dX2_greatestFamily_6 rfl (PLk.lf fX2_42) o51 rfl ?_
    refine g_icmp_ge (pc' := 12) (tgt := 37) dX2_greatestFamily_9 rfl (by decide) (fun (c1 : (σ.1 51 6 : Int32) ≤ (nI u)) => ?_) (fun (c1 : ¬ (σ.1 51 6 : Int32) ≤ (nI u)) => ?_)
    · exact absurd (nle (a := n) (c := u) c1 hz rfl (by omega) (by omega)) (by omega)
    · refine g_aload_n (pc' := 13) dX2_greatestFamily_12 rfl 0 rfl rfl ?_
      refine g_iload_n (pc' := 14) dX2_greatestFamily_13 rfl 2 rfl rfl ?_
      refine g_callr (pc' := 17) dX2_greatestFamily_14 rfl mX2_83 (ev_X2_familyOf (x1 := nI u) (s := u) (n := n) (σ := σ) rfl (by omega) hz hn hw (d := d)) o51 rfl (rm_ok (by omega) (by decide)) ⟨rfl, rfl⟩ ⟨Nat.zero_le _, Nat.zero_le _⟩ rfl rfl (Nat.le_of_ble_eq_true rfl) ?_
      refine g_istore_n (pc' := 18) (j := 3) (lv' := [(3, .int (famF σ u n 0 0)), (0, .ref (b + 51)), (1, .int (a)), (2, .int (nI u))]) dX2_greatestFamily_17 rfl rfl (by decide) rfl ?_
      refine g_iload_n (pc' := 19) dX2_greatestFamily_18 rfl 0 rfl rfl ?_
      refine g_callsr (pc' := 22) dX2_greatestFamily_19 rfl mX2_92 (ev_J6_bitCount_0f7a4 (x1 := famF σ u n 0 0) (σ := σ)  (d := d + 4)) (rm_ok (by omega) (by decide)) ⟨rfl, rfl⟩ ⟨Nat.zero_le _, Nat.zero_le _⟩ rfl rfl (Nat.le_of_ble_eq_true rfl) ?_
      refine g_iload_n (pc' := 23) dX2_greatestFamily_22 rfl 2 rfl rfl ?_
      refine g_callsr (pc' := 26) dX2_greatestFamily_23 rfl mX2_92 (ev_J6_bitCount_0f7a4 (x1 := a) (σ := σ)  (d := d + 4)) (rm_ok (by omega) (by decide)) ⟨rfl, rfl⟩ ⟨Nat.zero_le _, Nat.zero_le _⟩ rfl rfl (Nat.le_of_ble_eq_true rfl) ?_
      refine g_icmp_le (pc' := 29) (tgt := 31) dX2_greatestFamily_26 rfl (by decide) (fun (c2 : (rJ6_bitCount_0f7a4 (famF σ u n 0 0) σ : Int32) ≤ (rJ6_bitCount_0f7a4 a σ)) => ?_) (fun (c2 : ¬ (rJ6_bitCount_0f7a4 (famF σ u n 0 0) σ : Int32) ≤ (rJ6_bitCount_0f7a4 a σ)) => ?_)
      · refine g_iinc (pc' := 34) (v := nI (u + 1)) (lv' := [(2, .int (nI (u + 1))), (3, .int (famF σ u n 0 0)), (0, .ref (b + 51)), (1, .int (a))]) dX2_greatestFamily_31 rfl 3 rfl (nI_1 u) (by decide) rfl ?_
        refine g_goto (tgt := 4) dX2_greatestFamily_34 (by decide) ?_
        rw [show gfaF σ n (m + 1) u a = gfaF σ n m (u + 1) a by rw [gfaF, if_pos c2]]
        refine g_sub [2, 3, 0] rfl ?_
        exact ih (u + 1) _ (by omega)
      · refine g_iload_n (pc' := 30) dX2_greatestFamily_29 rfl 0 rfl rfl ?_
        refine g_istore_n (pc' := 31) (j := 1) (lv' := [(1, .int (famF σ u n 0 0)), (3, .int (famF σ u n 0 0)), (0, .ref (b + 51)), (2, .int (nI u))]) dX2_greatestFamily_30 rfl rfl (by decide) rfl ?_
        refine g_iinc (pc' := 34) (v := nI (u + 1)) (lv' := [(2, .int (nI (u + 1))), (1, .int (famF σ u n 0 0)), (3, .int (famF σ u n 0 0)), (0, .ref (b + 51))]) dX2_greatestFamily_31 rfl 3 rfl (nI_1 u) (by decide) rfl ?_
        refine g_goto (tgt := 4) dX2_greatestFamily_34 (by decide) ?_
        rw [show gfaF σ n (m + 1) u a = gfaF σ n m (u + 1) (famF σ u n 0 0) by rw [gfaF, if_neg c2]]
        refine g_sub [3, 1, 0] rfl ?_
        exact ih (u + 1) _ (by omega)
set_option maxRecDepth 100000 in
set_option maxHeartbeats 4000000 in
theorem ev_X2_greatestFamily {l : Launch} {b : Nat} {cy : Nat → ClassId} {D : va_G} {d : Nat}   {n : Nat} {σ : Sg}  (hz : σ.1 51 6 = nI n) (hn : n ≤ 12) (hw : WAll σ) : Es l b cy D (d + 5) yX2_greatestFamily cX2_greatestFamily (Option.some Jvm.ClassFile.FieldType.int) 4 [.ref (b + 51)] σ (some (.int (gfaF σ n n 0 0))) σ := by
  refine Ev.of (by decide) (Nat.le_of_ble_eq_true rfl) rfl ?_
  refine g_iconst (pc' := 1) (v := 0) dX2_greatestFamily_0 rfl (by decide) ?_
  refine g_istore_n (pc' := 2) (j := 1) (lv' := [(1, .int (0)), (0, .ref (b + 51))]) dX2_greatestFamily_1 rfl rfl (by decide) rfl ?_
  refine g_iconst (pc' := 3) (v := 0) dX2_greatestFamily_2 rfl (by decide) ?_
  refine g_istore_n (pc' := 4) (j := 2) (lv' := [(2, .int (0)), (1, .int (0)), (0, .ref (b + 51))]) dX2_greatestFamily_3 rfl rfl (by decide) rfl ?_
  refine g_sub [2, 1, 0] rfl ?_
  exact lp_gfa hz hn hw n 0 0 (by omega)
