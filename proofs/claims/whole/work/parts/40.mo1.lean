theorem i14 (c s : Nat) : nI c + 4 * nI s = nI (c + 4 * s) := by rw [show (4 : Int32) = nI 4 from rfl, pk_mul, nI_add]
def rX11_in  (x1 : Int64) (x2 : Int64) (x3 : Int64) (σ : Sg) : Bool := if (x1 : Int64) < x2 then false else if (x3 : Int64) < x1 then false else true
set_option maxRecDepth 100000 in
set_option maxHeartbeats 4000000 in
theorem ev_X11_in {l : Launch} {b : Nat} {cy : Nat → ClassId} {D : va_G} {d : Nat}  {x1 : Int64} {x2 : Int64} {x3 : Int64} {σ : Sg}   : Es l b cy D (d + 0) yX11_in cX11_in (Option.some Jvm.ClassFile.FieldType.boolean) 6 [.long (x1), .long (x2), .long (x3)] σ (some (.int (bI (rX11_in x1 x2 x3 σ)))) σ := by
  refine Ev.of (by decide) (Nat.le_of_ble_eq_true rfl) rfl ?_
  refine g_lload_n (pc' := 1) dX11_in_0 rfl 0 rfl rfl ?_
  refine g_lload_n (pc' := 2) dX11_in_1 rfl 1 rfl rfl ?_
  refine g_lif_lt (pc' := 6) (tgt := 17) dX11_in_2 dX11_in_3 rfl (by decide) (fun (c1 : (x1 : Int64) < x2) => ?_) (fun (c1 : ¬ (x1 : Int64) < x2) => ?_)
  · refine g_iconst (pc' := 18) (v := 0) dX11_in_17 rfl (by decide) ?_
    exact g_zret dX11_in_18 rfl (Or.inl rfl) ⟨rfl, rfl⟩ (by simp only [rX11_in, if_pos c1, bI_t, bI_f])
  · refine g_lload_n (pc' := 7) dX11_in_6 rfl 0 rfl rfl ?_
    refine g_lload (pc' := 9) dX11_in_7 rfl 2 rfl ?_
    refine g_lif_gt (pc' := 13) (tgt := 17) dX11_in_9 dX11_in_10 rfl (by decide) (fun (c2 : (x3 : Int64) < x1) => ?_) (fun (c2 : ¬ (x3 : Int64) < x1) => ?_)
    · refine g_iconst (pc' := 18) (v := 0) dX11_in_17 rfl (by decide) ?_
      exact g_zret dX11_in_18 rfl (Or.inl rfl) ⟨rfl, rfl⟩ (by simp only [rX11_in, if_neg c1, if_pos c2, bI_t, bI_f])
    · refine g_iconst (pc' := 14) (v := 1) dX11_in_13 rfl (by decide) ?_
      refine g_goto (tgt := 18) dX11_in_14 (by decide) ?_
      exact g_zret dX11_in_18 rfl (Or.inr rfl) ⟨rfl, rfl⟩ (by simp only [rX11_in, if_neg c1, if_neg c2, bI_t, bI_f])
def rX11_isBound  (x1 : Int64) (σ : Sg) : Bool := rX11_in x1 (-1000000) 1000000 σ
set_option maxRecDepth 100000 in
set_option maxHeartbeats 4000000 in
theorem ev_X11_isBound {l : Launch} {b : Nat} {cy : Nat → ClassId} {D : va_G} {d : Nat}  {x1 : Int64} {σ : Sg}   : Es l b cy D (d + 1) yX11_isBound cX11_isBound (Option.some Jvm.ClassFile.FieldType.boolean) 2 [.long (x1)] σ (some (.int (bI (rX11_isBound x1 σ)))) σ := by
  refine Ev.of (by decide) (Nat.le_of_ble_eq_true rfl) rfl ?_
  refine g_lload_n (pc' := 1) dX11_isBound_0 rfl 0 rfl rfl ?_
  refine g_ldc2 (pc' := 4) dX11_isBound_1 rfl kX11_49 ?_
  refine g_ldc2 (pc' := 7) dX11_isBound_4 rfl kX11_51 ?_
  refine g_callsr (pc' := 10) dX11_isBound_7 rfl mX11_53 (ev_X11_in (x1 := x1) (x2 := -1000000) (x3 := 1000000) (σ := σ)  (d := d)) (rm_ok (by omega) (by decide)) ⟨rfl, rfl⟩ ⟨Nat.zero_le _, Nat.zero_le _⟩ rfl rfl (Nat.le_of_ble_eq_true rfl) ?_
  exact g_zret dX11_isBound_10 rfl (bI_01 _) ⟨rfl, rfl⟩ rfl
def rX11_far  (x1 : Int64) (σ : Sg) : Int64 := if (x1 : Int64) < 0 then 0 - x1 else x1
set_option maxRecDepth 100000 in
set_option maxHeartbeats 4000000 in
theorem ev_X11_far {l : Launch} {b : Nat} {cy : Nat → ClassId} {D : va_G} {d : Nat}  {x1 : Int64} {σ : Sg}   : Es l b cy D (d + 0) yX11_far cX11_far (Option.some Jvm.ClassFile.FieldType.long) 2 [.long (x1)] σ (some (.long (rX11_far x1 σ))) σ := by
  refine Ev.of (by decide) (Nat.le_of_ble_eq_true rfl) rfl ?_
  refine g_lload_n (pc' := 1) dX11_far_0 rfl 0 rfl rfl ?_
  refine g_lconst (pc' := 2) (v := 0) dX11_far_1 rfl (by decide) ?_
  refine g_lif_ge (pc' := 6) (tgt := 12) dX11_far_2 dX11_far_3 rfl (by decide) (fun (c1 : ¬ (x1 : Int64) < 0) => ?_) (fun (c1 : (x1 : Int64) < 0) => ?_)
  · refine g_lload_n (pc' := 13) dX11_far_12 rfl 0 rfl rfl ?_
    exact g_lret dX11_far_13 rfl ⟨rfl, rfl⟩ (by simp only [rX11_far, if_neg c1, bI_t, bI_f])
  · refine g_lconst (pc' := 7) (v := 0) dX11_far_6 rfl (by decide) ?_
    refine g_lload_n (pc' := 8) dX11_far_7 rfl 0 rfl rfl ?_
    refine g_lsub (pc' := 9) dX11_far_8 rfl ?_
    refine g_goto (tgt := 13) dX11_far_9 (by decide) ?_
    exact g_lret dX11_far_13 rfl ⟨rfl, rfl⟩ (by simp only [rX11_far, if_pos c1, bI_t, bI_f])
def sX11_takes  (x1 : Int64) (x2 : Int64) (x3 : Int64) (x4 : Int64) (σ : Sg) : Sg := (σ.1, u2 (u2 (u2 (u2 σ.2 159 11 x1) 159 12 x2) 159 13 x3) 159 14 x4)
set_option maxRecDepth 100000 in
set_option maxHeartbeats 4000000 in
theorem ev_X11_takes {l : Launch} {b : Nat} {cy : Nat → ClassId} {D : va_G} {d : Nat}  {x1 : Int64} {x2 : Int64} {x3 : Int64} {x4 : Int64} {σ : Sg}   : Es l b cy D (d + 0) yX11_takes cX11_takes (Option.none : Option Jvm.ClassFile.FieldType) 9 [.ref (b + 159), .long (x1), .long (x2), .long (x3), .long (x4)] σ none (sX11_takes x1 x2 x3 x4 σ) := by
  refine Ev.of (by decide) (Nat.le_of_ble_eq_true rfl) rfl ?_
  refine g_aload_n (pc' := 1) dX11_takes_0 rfl 0 rfl rfl ?_
  refine g_lload_n (pc' := 2) dX11_takes_1 rfl 1 rfl rfl ?_
  refine g_putL (pc' := 5) dX11_takes_2 rfl fX11_57 o159 rfl ?_
  refine g_aload_n (pc' := 6) dX11_takes_5 rfl 0 rfl rfl ?_
  refine g_lload_n (pc' := 7) dX11_takes_6 rfl 2 rfl rfl ?_
  refine g_putL (pc' := 10) dX11_takes_7 rfl fX11_61 o159 rfl ?_
  refine g_aload_n (pc' := 11) dX11_takes_10 rfl 0 rfl rfl ?_
  refine g_lload (pc' := 13) dX11_takes_11 rfl 3 rfl ?_
  refine g_putL (pc' := 16) dX11_takes_13 rfl fX11_64 o159 rfl ?_
  refine g_aload_n (pc' := 17) dX11_takes_16 rfl 0 rfl rfl ?_
  refine g_lload (pc' := 19) dX11_takes_17 rfl 4 rfl ?_
  refine g_putL (pc' := 22) dX11_takes_19 rfl fX11_67 o159 rfl ?_
  exact g_vret dX11_takes_22 rfl ⟨rfl, rfl⟩ rfl
def sX11_multiplies  (x1 : Int64) (x2 : Int64) (x3 : Int64) (x4 : Int64) (σ : Sg) : Sg := sX11_takes (((σ.2 159 11) * x1) + ((σ.2 159 12) * x3)) (((σ.2 159 11) * x2) + ((σ.2 159 12) * x4)) (((σ.2 159 13) * x1) + ((σ.2 159 14) * x3)) (((σ.2 159 13) * x2) + ((σ.2 159 14) * x4)) σ
set_option maxRecDepth 100000 in
set_option maxHeartbeats 4000000 in
theorem ev_X11_multiplies {l : Launch} {b : Nat} {cy : Nat → ClassId} {D : va_G} {d : Nat}  {x1 : Int64} {x2 : Int64} {x3 : Int64} {x4 : Int64} {σ : Sg}   : Es l b cy D (d + 1) yX11_multiplies cX11_multiplies (Option.none : Option Jvm.ClassFile.FieldType) 9 [.ref (b + 159), .long (x1), .long (x2), .long (x3), .long (x4)] σ none (sX11_multiplies x1 x2 x3 x4 σ) := by
  refine Ev.of (by decide) (Nat.le_of_ble_eq_true rfl) rfl ?_
  refine g_aload_n (pc' := 1) dX11_multiplies_0 rfl 0 rfl rfl ?_
  refine g_aload_n (pc' := 2) dX11_multiplies_1 rfl 0 rfl rfl ?_
  refine g_getL (pc' := 5) dX11_multiplies_2 rfl (PLk.lf fX11_57) o159 rfl ?_
  refine g_lload_n (pc' := 6) dX11_multiplies_5 rfl 1 rfl rfl ?_
  refine g_lmul (pc' := 7) dX11_multiplies_6 rfl ?_
  refine g_aload_n (pc' := 8) dX11_multiplies_7 rfl 0 rfl rfl ?_
  refine g_getL (pc' := 11) dX11_multiplies_8 rfl (PLk.lf fX11_61) o159 rfl ?_
  refine g_lload (pc' := 13) dX11_multiplies_11 rfl 3 rfl ?_
  refine g_lmul (pc' := 14) dX11_multiplies_13 rfl ?_
  refine g_ladd (pc' := 15) dX11_multiplies_14 rfl ?_
  refine g_aload_n (pc' := 16) dX11_multiplies_15 rfl 0 rfl rfl ?_
  refine g_getL (pc' := 19) dX11_multiplies_16 rfl (PLk.lf fX11_57) o159 rfl ?_
  refine g_lload_n (pc' := 20) dX11_multiplies_19 rfl 2 rfl rfl ?_
  refine g_lmul (pc' := 21) dX11_multiplies_20 rfl ?_
  refine g_aload_n (pc' := 22) dX11_multiplies_21 rfl 0 rfl rfl ?_
  refine g_getL (pc' := 25) dX11_multiplies_22 rfl (PLk.lf fX11_61) o159 rfl ?_
  refine g_lload (pc' := 27) dX11_multiplies_25 rfl 4 rfl ?_
  refine g_lmul (pc' := 28) dX11_multiplies_27 rfl ?_
  refine g_ladd (pc' := 29) dX11_multiplies_28 rfl ?_
  refine g_aload_n (pc' := 30) dX11_multiplies_29 rfl 0 rfl rfl ?_
  refine g_getL (pc' := 33) dX11_multiplies_30 rfl (PLk.lf fX11_64) o159 rfl ?_
  refine g_lload_n (pc' := 34) dX11_multiplies_33 rfl 1 rfl rfl ?_
  refine g_lmul (pc' := 35) dX11_multiplies_34 rfl ?_
  refine g_aload_n (pc' := 36) dX11_multiplies_35 rfl 0 rfl rfl ?_
  refine g_getL (pc' := 39) dX11_multiplies_36 rfl (PLk.lf fX11_67) o159 rfl ?_
  refine g_lload (pc' := 41) dX11_multiplies_39 rfl 3 rfl ?_
  refine g_lmul (pc' := 42) dX11_multiplies_41 rfl ?_
  refine g_ladd (pc' := 43) dX11_multiplies_42 rfl ?_
  refine g_aload_n (pc' := 44) dX11_multiplies_43 rfl 0 rfl rfl ?_
  refine g_getL (pc' := 47) dX11_multiplies_44 rfl (PLk.lf fX11_64) o159 rfl ?_
  refine g_lload_n (pc' := 48) dX11_multiplies_47 rfl 2 rfl rfl ?_
  refine g_lmul (pc' := 49) dX11_multiplies_48 rfl ?_
  refine g_aload_n (pc' := 50) dX11_multiplies_49 rfl 0 rfl rfl ?_
  refine g_getL (pc' := 53) dX11_multiplies_50 rfl (PLk.lf fX11_67) o159 rfl ?_
  refine g_lload (pc' := 55) dX11_multiplies_53 rfl 4 rfl ?_
  refine g_lmul (pc' := 56) dX11_multiplies_55 rfl ?_
  refine g_ladd (pc' := 57) dX11_multiplies_56 rfl ?_
  refine g_callv (pc' := 60) dX11_multiplies_57 rfl mX11_70 (ev_X11_takes (x1 := ((σ.2 159 11) * x1) + ((σ.2 159 12) * x3)) (x2 := ((σ.2 159 11) * x2) + ((σ.2 159 12) * x4)) (x3 := ((σ.2 159 13) * x1) + ((σ.2 159 14) * x3)) (x4 := ((σ.2 159 13) * x2) + ((σ.2 159 14) * x4)) (σ := σ)  (d := d)) o159 rfl (rm_ok (by omega) (by decide)) ⟨rfl, rfl⟩ ⟨Nat.zero_le _, Nat.zero_le _⟩ rfl rfl (Nat.le_of_ble_eq_true rfl) ?_
  exact g_vret dX11_multiplies_60 rfl ⟨rfl, rfl⟩ rfl
def rX11_isWell   (σ : Sg) : Bool := if (rX11_isBound (σ.2 159 11) σ) = true then if (rX11_isBound (σ.2 159 12) σ) = true then if (rX11_isBound (σ.2 159 13) σ) = true then if (rX11_isBound (σ.2 159 14) σ) = true then true else false else false else false else false
set_option maxRecDepth 100000 in
set_option maxHeartbeats 4000000 in
theorem ev_X11_isWell {l : Launch} {b : Nat} {cy : Nat → ClassId} {D : va_G} {d : Nat}   {σ : Sg}   : Es l b cy D (d + 2) yX11_isWell cX11_isWell (Option.some Jvm.ClassFile.FieldType.boolean) 1 [.ref (b + 159)] σ (some (.int (bI (rX11_isWell σ)))) σ := by
  refine Ev.of (by decide) (Nat.le_of_ble_eq_true rfl) rfl ?_
  refine g_aload_n (pc' := 1) dX11_isWell_0 rfl 0 rfl rfl ?_
  refine g_getL (pc' := 4) dX11_isWell_1 rfl (PLk.lf fX11_57) o159 rfl ?_
  refine g_callsr (pc' := 7) dX11_isWell_4 rfl mX11_74 (ev_X11_isBound (x1 := σ.2 159 11) (σ := σ)  (d := d)) (rm_ok (by omega) (by decide)) ⟨rfl, rfl⟩ ⟨Nat.zero_le _, Nat.zero_le _⟩ rfl rfl (Nat.le_of_ble_eq_true rfl) ?_
  refine g_ifb_eq (pc' := 10) (tgt := 44) dX11_isWell_7 rfl (by decide) (fun (c1 : (rX11_isBound (σ.2 159 11) σ) = false) => ?_) (fun (c1 : (rX11_isBound (σ.2 159 11) σ) = true) => ?_)
  · refine g_iconst (pc' := 45) (v := 0) dX11_isWell_44 rfl (by decide) ?_
    exact g_zret dX11_isWell_45 rfl (Or.inl rfl) ⟨rfl, rfl⟩ (by simp only [rX11_isWell, if_neg (bf c1), bI_t, bI_f])
  · refine g_aload_n (pc' := 11) dX11_isWell_10 rfl 0 rfl rfl ?_
    refine g_getL (pc' := 14) dX11_isWell_11 rfl (PLk.lf fX11_61) o159 rfl ?_
    refine g_callsr (pc' := 17) dX11_isWell_14 rfl mX11_74 (ev_X11_isBound (x1 := σ.2 159 12) (σ := σ)  (d := d)) (rm_ok (by omega) (by decide)) ⟨rfl, rfl⟩ ⟨Nat.zero_le _, Nat.zero_le _⟩ rfl rfl (Nat.le_of_ble_eq_true rfl) ?_
    refine g_ifb_eq (pc' := 20) (tgt := 44) dX11_isWell_17 rfl (by decide) (fun (c2 : (rX11_isBound (σ.2 159 12) σ) = false) => ?_) (fun (c2 : (rX11_isBound (σ.2 159 12) σ) = true) => ?_)
    · refine g_iconst (pc' := 45) (v := 0) dX11_isWell_44 rfl (by decide) ?_
      exact g_zret dX11_isWell_45 rfl (Or.inl rfl) ⟨rfl, rfl⟩ (by simp only [rX11_isWell, if_pos c1, if_neg (bf c2), bI_t, bI_f])
    · refine g_aload_n (pc' := 21) dX11_isWell_20 rfl 0 rfl rfl ?_
      refine g_getL (pc' := 24) dX11_isWell_21 rfl (PLk.lf fX11_64) o159 rfl ?_
      refine g_callsr (pc' := 27) dX11_isWell_24 rfl mX11_74 (ev_X11_isBound (x1 := σ.2 159 13) (σ := σ)  (d := d)) (rm_ok (by omega) (by decide)) ⟨rfl, rfl⟩ ⟨Nat.zero_le _, Nat.zero_le _⟩ rfl rfl (Nat.le_of_ble_eq_true rfl) ?_
      refine g_ifb_eq (pc' := 30) (tgt := 44) dX11_isWell_27 rfl (by decide) (fun (c3 : (rX11_isBound (σ.2 159 13) σ) = false) => ?_) (fun (c3 : (rX11_isBound (σ.2 159 13) σ) = true) => ?_)
      · refine g_iconst (pc' := 45) (v := 0) dX11_isWell_44 rfl (by decide) ?_
        exact g_zret dX11_isWell_45 rfl (Or.inl rfl) ⟨rfl, rfl⟩ (by simp only [rX11_isWell, if_pos c1, if_pos c2, if_neg (bf c3), bI_t, bI_f])
      · refine g_aload_n (pc' := 31) dX11_isWell_30 rfl 0 rfl rfl ?_
        refine g_getL (pc' := 34) dX11_isWell_31 rfl (PLk.lf fX11_67) o159 rfl ?_
        refine g_callsr (pc' := 37) dX11_isWell_34 rfl mX11_74 (ev_X11_isBound (x1 := σ.2 159 14) (σ := σ)  (d := d)) (rm_ok (by omega) (by decide)) ⟨rfl, rfl⟩ ⟨Nat.zero_le _, Nat.zero_le _⟩ rfl rfl (Nat.le_of_ble_eq_true rfl) ?_
        refine g_ifb_eq (pc' := 40) (tgt := 44) dX11_isWell_37 rfl (by decide) (fun (c4 : (rX11_isBound (σ.2 159 14) σ) = false) => ?_) (fun (c4 : (rX11_isBound (σ.2 159 14) σ) = true) => ?_)
        · refine g_iconst (pc' := 45) (v := 0) dX11_isWell_44 rfl (by decide) ?_
          exact g_zret dX11_isWell_45 rfl (Or.inl rfl) ⟨rfl, rfl⟩ (by simp only [rX11_isWell, if_pos c1, if_pos c2, if_pos c3, if_neg (bf c4), bI_t, bI_f])
        · refine g_iconst (pc' := 41) (v := 1) dX11_isWell_40 rfl (by decide) ?_
          refine g_goto (tgt := 45) dX11_isWell_41 (by decide) ?_
          exact g_zret dX11_isWell_45 rfl (Or.inr rfl) ⟨rfl, rfl⟩ (by simp only [rX11_isWell, if_pos c1, if_pos c2, if_pos c3, if_pos c4, bI_t, bI_f])
def rX11_letterOf  (x1 : Int32) (σ : Sg) : Int32 := if (x1 : Int32) = 82 then 0 else if (x1 : Int32) = 76 then 1 else if (x1 : Int32) = 114 then 2 else if (x1 : Int32) = 108 then 3 else if (x1 : Int32) = 83 then 4 else if (x1 : Int32) = 115 then 5 else -1
set_option maxRecDepth 100000 in
set_option maxHeartbeats 4000000 in
theorem ev_X11_letterOf {l : Launch} {b : Nat} {cy : Nat → ClassId} {D : va_G} {d : Nat}  {x1 : Int32} {σ : Sg}   : Es l b cy D (d + 0) yX11_letterOf cX11_letterOf (Option.some Jvm.ClassFile.FieldType.int) 1 [.int (x1)] σ (some (.int (rX11_letterOf x1 σ))) σ := by
  refine Ev.of (by decide) (Nat.le_of_ble_eq_true rfl) rfl ?_
  refine g_iload_n (pc' := 1) dX11_letterOf_0 rfl 0 rfl rfl ?_
  refine g_bipush (pc' := 3) (v := 82) dX11_letterOf_1 rfl (by decide) ?_
  refine g_icmp_ne (pc' := 6) (tgt := 10) dX11_letterOf_3 rfl (by decide) (fun (c1 : ¬ (x1 : Int32) = 82) => ?_) (fun (c1 : (x1 : Int32) = 82) => ?_)
  · refine g_iload_n (pc' := 11) dX11_letterOf_10 rfl 0 rfl rfl ?_
    refine g_bipush (pc' := 13) (v := 76) dX11_letterOf_11 rfl (by decide) ?_
    refine g_icmp_ne (pc' := 16) (tgt := 20) dX11_letterOf_13 rfl (by decide) (fun (c2 : ¬ (x1 : Int32) = 76) => ?_) (fun (c2 : (x1 : Int32) = 76) => ?_)
    · refine g_iload_n (pc' := 21) dX11_letterOf_20 rfl 0 rfl rfl ?_
      refine g_bipush (pc' := 23) (v := 114) dX11_letterOf_21 rfl (by decide) ?_
      refine g_icmp_ne (pc' := 26) (tgt := 30) dX11_letterOf_23 rfl (by decide) (fun (c3 : ¬ (x1 : Int32) = 114) => ?_) (fun (c3 : (x1 : Int32) = 114) => ?_)
      · refine g_iload_n (pc' := 31) dX11_letterOf_30 rfl 0 rfl rfl ?_
        refine g_bipush (pc' := 33) (v := 108) dX11_letterOf_31 rfl (by decide) ?_
        refine g_icmp_ne (pc' := 36) (tgt := 40) dX11_letterOf_33 rfl (by decide) (fun (c4 : ¬ (x1 : Int32) = 108) => ?_) (fun (c4 : (x1 : Int32) = 108) => ?_)
        · refine g_iload_n (pc' := 41) dX11_letterOf_40 rfl 0 rfl rfl ?_
          refine g_bipush (pc' := 43) (v := 83) dX11_letterOf_41 rfl (by decide) ?_
          refine g_icmp_ne (pc' := 46) (tgt := 50) dX11_letterOf_43 rfl (by decide) (fun (c5 : ¬ (x1 : Int32) = 83) => ?_) (fun (c5 : (x1 : Int32) = 83) => ?_)
          · refine g_iload_n (pc' := 51) dX11_letterOf_50 rfl 0 rfl rfl ?_
            refine g_bipush (pc' := 53) (v := 115) dX11_letterOf_51 rfl (by decide) ?_
            refine g_icmp_ne (pc' := 56) (tgt := 60) dX11_letterOf_53 rfl (by decide) (fun (c6 : ¬ (x1 : Int32) = 115) => ?_) (fun (c6 : (x1 : Int32) = 115) => ?_)
            · refine g_iconst (pc' := 61) (v := -1) dX11_letterOf_60 rfl (by decide) ?_
              exact g_iret dX11_letterOf_61 rfl ⟨rfl, rfl⟩ (by simp only [rX11_letterOf, if_neg c1, if_neg c2, if_neg c3, if_neg c4, if_neg c5, if_neg c6, bI_t, bI_f])
            · refine g_iconst (pc' := 57) (v := 5) dX11_letterOf_56 rfl (by decide) ?_
              refine g_goto (tgt := 61) dX11_letterOf_57 (by decide) ?_
              exact g_iret dX11_letterOf_61 rfl ⟨rfl, rfl⟩ (by simp only [rX11_letterOf, if_neg c1, if_neg c2, if_neg c3, if_neg c4, if_neg c5, if_pos c6, bI_t, bI_f])
          · refine g_iconst (pc' := 47) (v := 4) dX11_letterOf_46 rfl (by decide) ?_
            refine g_goto (tgt := 61) dX11_letterOf_47 (by decide) ?_
            exact g_iret dX11_letterOf_61 rfl ⟨rfl, rfl⟩ (by simp only [rX11_letterOf, if_neg c1, if_neg c2, if_neg c3, if_neg c4, if_pos c5, bI_t, bI_f])
        · refine g_iconst (pc' := 37) (v := 3) dX11_letterOf_36 rfl (by decide) ?_
          refine g_goto (tgt := 61) dX11_letterOf_37 (by decide) ?_
          exact g_iret dX11_letterOf_61 rfl ⟨rfl, rfl⟩ (by simp only [rX11_letterOf, if_neg c1, if_neg c2, if_neg c3, if_pos c4, bI_t, bI_f])
      · refine g_iconst (pc' := 27) (v := 2) dX11_letterOf_26 rfl (by decide) ?_
        refine g_goto (tgt := 61) dX11_letterOf_27 (by decide) ?_
        exact g_iret dX11_letterOf_61 rfl ⟨rfl, rfl⟩ (by simp only [rX11_letterOf, if_neg c1, if_neg c2, if_pos c3, bI_t, bI_f])
    · refine g_iconst (pc' := 17) (v := 1) dX11_letterOf_16 rfl (by decide) ?_
      refine g_goto (tgt := 61) dX11_letterOf_17 (by decide) ?_
      exact g_iret dX11_letterOf_61 rfl ⟨rfl, rfl⟩ (by simp only [rX11_letterOf, if_neg c1, if_pos c2, bI_t, bI_f])
  · refine g_iconst (pc' := 7) (v := 0) dX11_letterOf_6 rfl (by decide) ?_
    refine g_goto (tgt := 61) dX11_letterOf_7 (by decide) ?_
    exact g_iret dX11_letterOf_61 rfl ⟨rfl, rfl⟩ (by simp only [rX11_letterOf, if_pos c1, bI_t, bI_f])
def sX11_comes  (x1 : Int32) (σ : Sg) : Sg := if (x1 : Int32) = 0 then sX11_multiplies 1 1 0 1 σ else if (x1 : Int32) = 1 then sX11_multiplies 1 0 1 1 σ else if (x1 : Int32) = 2 then sX11_multiplies 1 (-1) 0 1 σ else if (x1 : Int32) = 3 then sX11_multiplies 1 0 (-1) 1 σ else if (x1 : Int32) = 4 then sX11_multiplies 0 (-1) 1 0 σ else sX11_multiplies 0 1 (-1) 0 σ
set_option maxRecDepth 100000 in
set_option maxHeartbeats 4000000 in
theorem ev_X11_comes {l : Launch} {b : Nat} {cy : Nat → ClassId} {D : va_G} {d : Nat}  {x1 : Int32} {σ : Sg}   : Es l b cy D (d + 2) yX11_comes cX11_comes (Option.none : Option Jvm.ClassFile.FieldType) 2 [.ref (b + 159), .int (x1)] σ none (sX11_comes x1 σ) := by
  refine Ev.of (by decide) (Nat.le_of_ble_eq_true rfl) rfl ?_
  refine g_iload_n (pc' := 1) dX11_comes_0 rfl 1 rfl rfl ?_
  by_cases c1 : (x1 : Int32) = 0
  · refine g_tabIn (tgt := 36) 0 dX11_comes_1 c1 (by decide) (by decide) rfl (by decide) ?_
    refine g_aload_n (pc' := 37) dX11_comes_36 rfl 0 rfl rfl ?_
    refine g_lconst (pc' := 38) (v := 1) dX11_comes_37 rfl (by decide) ?_
    refine g_lconst (pc' := 39) (v := 1) dX11_comes_38 rfl (by decide) ?_
    refine g_lconst (pc' := 40) (v := 0) dX11_comes_39 rfl (by decide) ?_
    refine g_lconst (pc' := 41) (v := 1) dX11_comes_40 rfl (by decide) ?_
    refine g_callv (pc' := 44) dX11_comes_41 rfl mX11_78 (ev_X11_multiplies (x1 := 1) (x2 := 1) (x3 := 0) (x4 := 1) (σ := σ)  (d := d)) o159 rfl (rm_ok (by omega) (by decide)) ⟨rfl, rfl⟩ ⟨Nat.zero_le _, Nat.zero_le _⟩ rfl rfl (Nat.le_of_ble_eq_true rfl) ?_
    refine g_goto (tgt := 107) dX11_comes_44 (by decide) ?_
    exact g_vret dX11_comes_107 rfl ⟨rfl, rfl⟩ (by simp only [sX11_comes, if_pos c1, bI_t, bI_f])
  by_cases c2 : (x1 : Int32) = 1
  · refine g_tabIn (tgt := 47) 1 dX11_comes_1 c2 (by decide) (by decide) rfl (by decide) ?_
    refine g_aload_n (pc' := 48) dX11_comes_47 rfl 0 rfl rfl ?_
    refine g_lconst (pc' := 49) (v := 1) dX11_comes_48 rfl (by decide) ?_
    refine g_lconst (pc' := 50) (v := 0) dX11_comes_49 rfl (by decide) ?_
    refine g_lconst (pc' := 51) (v := 1) dX11_comes_50 rfl (by decide) ?_
    refine g_lconst (pc' := 52) (v := 1) dX11_comes_51 rfl (by decide) ?_
    refine g_callv (pc' := 55) dX11_comes_52 rfl mX11_78 (ev_X11_multiplies (x1 := 1) (x2 := 0) (x3 := 1) (x4 := 1) (σ := σ)  (d := d)) o159 rfl (rm_ok (by omega) (by decide)) ⟨rfl, rfl⟩ ⟨Nat.zero_le _, Nat.zero_le _⟩ rfl rfl (Nat.le_of_ble_eq_true rfl) ?_
    refine g_goto (tgt := 107) dX11_comes_55 (by decide) ?_
    exact g_vret dX11_comes_107 rfl ⟨rfl, rfl⟩ (by simp only [sX11_comes, if_neg c1, if_pos c2, bI_t, bI_f])
  by_cases c3 : (x1 : Int32) = 2
  · refine g_tabIn (tgt := 58) 2 dX11_comes_1 c3 (by decide) (by decide) rfl (by decide) ?_
    refine g_aload_n (pc' := 59) dX11_comes_58 rfl 0 rfl rfl ?_
    refine g_lconst (pc' := 60) (v := 1) dX11_comes_59 rfl (by decide) ?_
    refine g_ldc2 (pc' := 63) dX11_comes_60 rfl kX11_81 ?_
    refine g_lconst (pc' := 64) (v := 0) dX11_comes_63 rfl (by decide) ?_
    refine g_lconst (pc' := 65) (v := 1) dX11_comes_64 rfl (by decide) ?_
    refine g_callv (pc' := 68) dX11_comes_65 rfl mX11_78 (ev_X11_multiplies (x1 := 1) (x2 := -1) (x3 := 0) (x4 := 1) (σ := σ)  (d := d)) o159 rfl (rm_ok (by omega) (by decide)) ⟨rfl, rfl⟩ ⟨Nat.zero_le _, Nat.zero_le _⟩ rfl rfl (Nat.le_of_ble_eq_true rfl) ?_
    refine g_goto (tgt := 107) dX11_comes_68 (by decide) ?_
    exact g_vret dX11_comes_107 rfl ⟨rfl, rfl⟩ (by simp only [sX11_comes, if_neg c1, if_neg c2, if_pos c3, bI_t, bI_f])
  by_cases c4 : (x1 : Int32) = 3
  · refine g_tabIn (tgt := 71) 3 dX11_comes_1 c4 (by decide) (by decide) rfl (by decide) ?_
    refine g_aload_n (pc' := 72) dX11_comes_71 rfl 0 rfl rfl ?_
    refine g_lconst (pc' := 73) (v := 1) dX11_comes_72 rfl (by decide) ?_
    refine g_lconst (pc' := 74) (v := 0) dX11_comes_73 rfl (by decide) ?_
    refine g_ldc2 (pc' := 77) dX11_comes_74 rfl kX11_81 ?_
    refine g_lconst (pc' := 78) (v := 1) dX11_comes_77 rfl (by decide) ?_
    refine g_callv (pc' := 81) dX11_comes_78 rfl mX11_78 (ev_X11_multiplies (x1 := 1) (x2 := 0) (x3 := -1) (x4 := 1) (σ := σ)  (d := d)) o159 rfl (rm_ok (by omega) (by decide)) ⟨rfl, rfl⟩ ⟨Nat.zero_le _, Nat.zero_le _⟩ rfl rfl (Nat.le_of_ble_eq_true rfl) ?_
    refine g_goto (tgt := 107) dX11_comes_81 (by decide) ?_
    exact g_vret dX11_comes_107 rfl ⟨rfl, rfl⟩ (by simp only [sX11_comes, if_neg c1, if_neg c2, if_neg c3, if_pos c4, bI_t, bI_f])
  by_cases c5 : (x1 : Int32) = 4
  · refine g_tabIn (tgt := 84) 4 dX11_comes_1 c5 (by decide) (by decide) rfl (by decide) ?_
    refine g_aload_n (pc' := 85) dX11_comes_84 rfl 0 rfl rfl ?_
    refine g_lconst (pc' := 86) (v := 0) dX11_comes_85 rfl (by decide) ?_
    refine g_ldc2 (pc' := 89) dX11_comes_86 rfl kX11_81 ?_
    refine g_lconst (pc' := 90) (v := 1) dX11_comes_89 rfl (by decide) ?_
    refine g_lconst (pc' := 91) (v := 0) dX11_comes_90 rfl (by decide) ?_
    refine g_callv (pc' := 94) dX11_comes_91 rfl mX11_78 (ev_X11_multiplies (x1 := 0) (x2 := -1) (x3 := 1) (x4 := 0) (σ := σ)  (d := d)) o159 rfl (rm_ok (by omega) (by decide)) ⟨rfl, rfl⟩ ⟨Nat.zero_le _, Nat.zero_le _⟩ rfl rfl (Nat.le_of_ble_eq_true rfl) ?_
    refine g_goto (tgt := 107) dX11_comes_94 (by decide) ?_
    exact g_vret dX11_comes_107 rfl ⟨rfl, rfl⟩ (by simp only [sX11_comes, if_neg c1, if_neg c2, if_neg c3, if_neg c4, if_pos c5, bI_t, bI_f])
  refine g_tabOut (tgt := 97) dX11_comes_1 (by have hh := And.intro trivial trivial; have hh0 := lv_neT c1 (a := 0) (by decide); have hh1 := lv_neT c2 (a := 1) (by decide); have hh2 := lv_neT c3 (a := 2) (by decide); have hh3 := lv_neT c4 (a := 3) (by decide); have hh4 := lv_neT c5 (a := 4) (by decide); omega) (by decide) ?_
  refine g_aload_n (pc' := 98) dX11_comes_97 rfl 0 rfl rfl ?_
  refine g_lconst (pc' := 99) (v := 0) dX11_comes_98 rfl (by decide) ?_
  refine g_lconst (pc' := 100) (v := 1) dX11_comes_99 rfl (by decide) ?_
  refine g_ldc2 (pc' := 103) dX11_comes_100 rfl kX11_81 ?_
  refine g_lconst (pc' := 104) (v := 0) dX11_comes_103 rfl (by decide) ?_
  refine g_callv (pc' := 107) dX11_comes_104 rfl mX11_78 (ev_X11_multiplies (x1 := 0) (x2 := 1) (x3 := -1) (x4 := 0) (σ := σ)  (d := d)) o159 rfl (rm_ok (by omega) (by decide)) ⟨rfl, rfl⟩ ⟨Nat.zero_le _, Nat.zero_le _⟩ rfl rfl (Nat.le_of_ble_eq_true rfl) ?_
  exact g_vret dX11_comes_107 rfl ⟨rfl, rfl⟩ (by simp only [sX11_comes, if_neg c1, if_neg c2, if_neg c3, if_neg c4, if_neg c5, bI_t, bI_f])
def rX11_fault   (σ : Sg) : Int32 := σ.1 159 8
set_option maxRecDepth 100000 in
set_option maxHeartbeats 4000000 in
theorem ev_X11_fault {l : Launch} {b : Nat} {cy : Nat → ClassId} {D : va_G} {d : Nat}   {σ : Sg}   : Es l b cy D (d + 0) yX11_fault cX11_fault (Option.some Jvm.ClassFile.FieldType.int) 1 [.ref (b + 159)] σ (some (.int (rX11_fault σ))) σ := by
  refine Ev.of (by decide) (Nat.le_of_ble_eq_true rfl) rfl ?_
  refine g_aload_n (pc' := 1) dX11_fault_0 rfl 0 rfl rfl ?_
  refine g_getI (pc' := 4) dX11_fault_1 rfl (PLk.lf fX11_26) o159 rfl ?_
  exact g_iret dX11_fault_4 rfl ⟨rfl, rfl⟩ rfl
def rX11_isOne   (σ : Sg) : Bool := if (σ.2 159 12 : Int64) = 0 then if (σ.2 159 13 : Int64) = 0 then true else false else false
set_option maxRecDepth 100000 in
set_option maxHeartbeats 4000000 in
theorem ev_X11_isOne {l : Launch} {b : Nat} {cy : Nat → ClassId} {D : va_G} {d : Nat}   {σ : Sg}   : Es l b cy D (d + 0) yX11_isOne cX11_isOne (Option.some Jvm.ClassFile.FieldType.boolean) 1 [.ref (b + 159)] σ (some (.int (bI (rX11_isOne σ)))) σ := by
  refine Ev.of (by decide) (Nat.le_of_ble_eq_true rfl) rfl ?_
  refine g_aload_n (pc' := 1) dX11_isOne_0 rfl 0 rfl rfl ?_
  refine g_getL (pc' := 4) dX11_isOne_1 rfl (PLk.lf fX11_61) o159 rfl ?_
  refine g_lconst (pc' := 5) (v := 0) dX11_isOne_4 rfl (by decide) ?_
  refine g_lif_ne (pc' := 9) (tgt := 22) dX11_isOne_5 dX11_isOne_6 rfl (by decide) (fun (c1 : ¬ (σ.2 159 12 : Int64) = 0) => ?_) (fun (c1 : (σ.2 159 12 : Int64) = 0) => ?_)
  · refine g_iconst (pc' := 23) (v := 0) dX11_isOne_22 rfl (by decide) ?_
    exact g_zret dX11_isOne_23 rfl (Or.inl rfl) ⟨rfl, rfl⟩ (by simp only [rX11_isOne, if_neg c1, bI_t, bI_f])
  · refine g_aload_n (pc' := 10) dX11_isOne_9 rfl 0 rfl rfl ?_
    refine g_getL (pc' := 13) dX11_isOne_10 rfl (PLk.lf fX11_64) o159 rfl ?_
    refine g_lconst (pc' := 14) (v := 0) dX11_isOne_13 rfl (by decide) ?_
    refine g_lif_ne (pc' := 18) (tgt := 22) dX11_isOne_14 dX11_isOne_15 rfl (by decide) (fun (c2 : ¬ (σ.2 159 13 : Int64) = 0) => ?_) (fun (c2 : (σ.2 159 13 : Int64) = 0) => ?_)
    · refine g_iconst (pc' := 23) (v := 0) dX11_isOne_22 rfl (by decide) ?_
      exact g_zret dX11_isOne_23 rfl (Or.inl rfl) ⟨rfl, rfl⟩ (by simp only [rX11_isOne, if_pos c1, if_neg c2, bI_t, bI_f])
    · refine g_iconst (pc' := 19) (v := 1) dX11_isOne_18 rfl (by decide) ?_
      refine g_goto (tgt := 23) dX11_isOne_19 (by decide) ?_
      exact g_zret dX11_isOne_23 rfl (Or.inr rfl) ⟨rfl, rfl⟩ (by simp only [rX11_isOne, if_pos c1, if_pos c2, bI_t, bI_f])
def sX11_changes   (σ : Sg) : Sg := sX11_takes (0 - (σ.2 159 11)) (0 - (σ.2 159 12)) (0 - (σ.2 159 13)) (0 - (σ.2 159 14)) σ
set_option maxRecDepth 100000 in
set_option maxHeartbeats 4000000 in
theorem ev_X11_changes {l : Launch} {b : Nat} {cy : Nat → ClassId} {D : va_G} {d : Nat}   {σ : Sg}   : Es l b cy D (d + 1) yX11_changes cX11_changes (Option.none : Option Jvm.ClassFile.FieldType) 1 [.ref (b + 159)] σ none (sX11_changes σ) := by
  refine Ev.of (by decide) (Nat.le_of_ble_eq_true rfl) rfl ?_
  refine g_aload_n (pc' := 1) dX11_changes_0 rfl 0 rfl rfl ?_
  refine g_lconst (pc' := 2) (v := 0) dX11_changes_1 rfl (by decide) ?_
  refine g_aload_n (pc' := 3) dX11_changes_2 rfl 0 rfl rfl ?_
  refine g_getL (pc' := 6) dX11_changes_3 rfl (PLk.lf fX11_57) o159 rfl ?_
  refine g_lsub (pc' := 7) dX11_changes_6 rfl ?_
  refine g_lconst (pc' := 8) (v := 0) dX11_changes_7 rfl (by decide) ?_
  refine g_aload_n (pc' := 9) dX11_changes_8 rfl 0 rfl rfl ?_
  refine g_getL (pc' := 12) dX11_changes_9 rfl (PLk.lf fX11_61) o159 rfl ?_
  refine g_lsub (pc' := 13) dX11_changes_12 rfl ?_
  refine g_lconst (pc' := 14) (v := 0) dX11_changes_13 rfl (by decide) ?_
  refine g_aload_n (pc' := 15) dX11_changes_14 rfl 0 rfl rfl ?_
  refine g_getL (pc' := 18) dX11_changes_15 rfl (PLk.lf fX11_64) o159 rfl ?_
  refine g_lsub (pc' := 19) dX11_changes_18 rfl ?_
  refine g_lconst (pc' := 20) (v := 0) dX11_changes_19 rfl (by decide) ?_
  refine g_aload_n (pc' := 21) dX11_changes_20 rfl 0 rfl rfl ?_
  refine g_getL (pc' := 24) dX11_changes_21 rfl (PLk.lf fX11_67) o159 rfl ?_
  refine g_lsub (pc' := 25) dX11_changes_24 rfl ?_
  refine g_callv (pc' := 28) dX11_changes_25 rfl mX11_70 (ev_X11_takes (x1 := 0 - (σ.2 159 11)) (x2 := 0 - (σ.2 159 12)) (x3 := 0 - (σ.2 159 13)) (x4 := 0 - (σ.2 159 14)) (σ := σ)  (d := d)) o159 rfl (rm_ok (by omega) (by decide)) ⟨rfl, rfl⟩ ⟨Nat.zero_le _, Nat.zero_le _⟩ rfl rfl (Nat.le_of_ble_eq_true rfl) ?_
  exact g_vret dX11_changes_28 rfl ⟨rfl, rfl⟩ rfl
def rX11_order   (σ : Sg) : Int32 := if (σ.1 159 15 : Int32) = 0 then if (0 : Int64) < (σ.2 159 16) then 1 else 2 else if (σ.1 159 15 : Int32) = 1 then if (σ.2 159 16 : Int64) < 0 then 3 else if (σ.2 159 16 : Int64) = 0 then 4 else 6 else -1
set_option maxRecDepth 100000 in
set_option maxHeartbeats 4000000 in
theorem ev_X11_order {l : Launch} {b : Nat} {cy : Nat → ClassId} {D : va_G} {d : Nat}   {σ : Sg}   : Es l b cy D (d + 0) yX11_order cX11_order (Option.some Jvm.ClassFile.FieldType.int) 1 [.ref (b + 159)] σ (some (.int (rX11_order σ))) σ := by
  refine Ev.of (by decide) (Nat.le_of_ble_eq_true rfl) rfl ?_
  refine g_aload_n (pc' := 1) dX11_order_0 rfl 0 rfl rfl ?_
  refine g_getI (pc' := 4) dX11_order_1 rfl (PLk.lf fX11_168) o159 rfl ?_
  refine g_if_ne (pc' := 7) (tgt := 22) dX11_order_4 rfl (by decide) (fun (c1 : ¬ (σ.1 159 15 : Int32) = 0) => ?_) (fun (c1 : (σ.1 159 15 : Int32) = 0) => ?_)
  · refine g_aload_n (pc' := 23) dX11_order_22 rfl 0 rfl rfl ?_
    refine g_getI (pc' := 26) dX11_order_23 rfl (PLk.lf fX11_168) o159 rfl ?_
    refine g_iconst (pc' := 27) (v := 1) dX11_order_26 rfl (by decide) ?_
    refine g_icmp_eq (pc' := 30) (tgt := 34) dX11_order_27 rfl (by decide) (fun (c2 : (σ.1 159 15 : Int32) = 1) => ?_) (fun (c2 : ¬ (σ.1 159 15 : Int32) = 1) => ?_)
    · refine g_aload_n (pc' := 35) dX11_order_34 rfl 0 rfl rfl ?_
      refine g_getL (pc' := 38) dX11_order_35 rfl (PLk.lf fX11_126) o159 rfl ?_
      refine g_lconst (pc' := 39) (v := 0) dX11_order_38 rfl (by decide) ?_
      refine g_lif_ge (pc' := 43) (tgt := 47) dX11_order_39 dX11_order_40 rfl (by decide) (fun (c3 : ¬ (σ.2 159 16 : Int64) < 0) => ?_) (fun (c3 : (σ.2 159 16 : Int64) < 0) => ?_)
      · refine g_aload_n (pc' := 48) dX11_order_47 rfl 0 rfl rfl ?_
        refine g_getL (pc' := 51) dX11_order_48 rfl (PLk.lf fX11_126) o159 rfl ?_
        refine g_lconst (pc' := 52) (v := 0) dX11_order_51 rfl (by decide) ?_
        refine g_lif_ne (pc' := 56) (tgt := 60) dX11_order_52 dX11_order_53 rfl (by decide) (fun (c4 : ¬ (σ.2 159 16 : Int64) = 0) => ?_) (fun (c4 : (σ.2 159 16 : Int64) = 0) => ?_)
        · refine g_bipush (pc' := 62) (v := 6) dX11_order_60 rfl (by decide) ?_
          exact g_iret dX11_order_62 rfl ⟨rfl, rfl⟩ (by simp only [rX11_order, if_neg c1, if_pos c2, if_neg c3, if_neg c4, bI_t, bI_f])
        · refine g_iconst (pc' := 57) (v := 4) dX11_order_56 rfl (by decide) ?_
          refine g_goto (tgt := 62) dX11_order_57 (by decide) ?_
          exact g_iret dX11_order_62 rfl ⟨rfl, rfl⟩ (by simp only [rX11_order, if_neg c1, if_pos c2, if_neg c3, if_pos c4, bI_t, bI_f])
      · refine g_iconst (pc' := 44) (v := 3) dX11_order_43 rfl (by decide) ?_
        refine g_goto (tgt := 62) dX11_order_44 (by decide) ?_
        exact g_iret dX11_order_62 rfl ⟨rfl, rfl⟩ (by simp only [rX11_order, if_neg c1, if_pos c2, if_pos c3, bI_t, bI_f])
    · refine g_iconst (pc' := 31) (v := -1) dX11_order_30 rfl (by decide) ?_
      refine g_goto (tgt := 62) dX11_order_31 (by decide) ?_
      exact g_iret dX11_order_62 rfl ⟨rfl, rfl⟩ (by simp only [rX11_order, if_neg c1, if_neg c2, bI_t, bI_f])
  · refine g_aload_n (pc' := 8) dX11_order_7 rfl 0 rfl rfl ?_
    refine g_getL (pc' := 11) dX11_order_8 rfl (PLk.lf fX11_126) o159 rfl ?_
    refine g_lconst (pc' := 12) (v := 0) dX11_order_11 rfl (by decide) ?_
    refine g_lif_le (pc' := 16) (tgt := 20) dX11_order_12 dX11_order_13 rfl (by decide) (fun (c5 : ¬ (0 : Int64) < (σ.2 159 16)) => ?_) (fun (c5 : (0 : Int64) < (σ.2 159 16)) => ?_)
    · refine g_iconst (pc' := 21) (v := 2) dX11_order_20 rfl (by decide) ?_
      exact g_iret dX11_order_21 rfl ⟨rfl, rfl⟩ (by simp only [rX11_order, if_pos c1, if_neg c5, bI_t, bI_f])
    · refine g_iconst (pc' := 17) (v := 1) dX11_order_16 rfl (by decide) ?_
      refine g_goto (tgt := 21) dX11_order_17 (by decide) ?_
      exact g_iret dX11_order_21 rfl ⟨rfl, rfl⟩ (by simp only [rX11_order, if_pos c1, if_pos c5, bI_t, bI_f])
def rX11_tear   (σ : Sg) : Int32 := σ.1 159 10
def sX11_tear   (σ : Sg) : Sg := (u2 σ.1 159 10 0, σ.2)
set_option maxRecDepth 100000 in
set_option maxHeartbeats 4000000 in
theorem ev_X11_tear {l : Launch} {b : Nat} {cy : Nat → ClassId} {D : va_G} {d : Nat}   {σ : Sg}   : Es l b cy D (d + 0) yX11_tear cX11_tear (Option.some Jvm.ClassFile.FieldType.int) 2 [.ref (b + 159)] σ (some (.int (rX11_tear σ))) (sX11_tear σ) := by
  refine Ev.of (by decide) (Nat.le_of_ble_eq_true rfl) rfl ?_
  refine g_aload_n (pc' := 1) dX11_tear_0 rfl 0 rfl rfl ?_
  refine g_getI (pc' := 4) dX11_tear_1 rfl (PLk.lf fX11_231) o159 rfl ?_
  refine g_istore_n (pc' := 5) (j := 1) (lv' := [(1, .int (σ.1 159 10)), (0, .ref (b + 159))]) dX11_tear_4 rfl rfl (by decide) rfl ?_
  refine g_aload_n (pc' := 6) dX11_tear_5 rfl 1 rfl rfl ?_
  refine g_iconst (pc' := 7) (v := 0) dX11_tear_6 rfl (by decide) ?_
  refine g_putI (pc' := 10) dX11_tear_7 rfl fX11_231 o159 rfl ?_
  refine g_iload_n (pc' := 11) dX11_tear_10 rfl 0 rfl rfl ?_
  exact g_iret dX11_tear_11 rfl ⟨rfl, rfl⟩ rfl
def rX11_seed  (x1 : Int32) (σ : Sg) : Int32 := if 0 ≤ (x1 : Int32) then σ.1 159 5 else -1000000002
def sX11_seed  (x1 : Int32) (σ : Sg) : Sg := if 0 ≤ (x1 : Int32) then (u2 σ.1 159 5 x1, σ.2) else σ
set_option maxRecDepth 100000 in
set_option maxHeartbeats 4000000 in
theorem ev_X11_seed {l : Launch} {b : Nat} {cy : Nat → ClassId} {D : va_G} {d : Nat}  {x1 : Int32} {σ : Sg}   : Es l b cy D (d + 0) yX11_seed cX11_seed (Option.some Jvm.ClassFile.FieldType.int) 3 [.ref (b + 159), .int (x1)] σ (some (.int (rX11_seed x1 σ))) (sX11_seed x1 σ) := by
  refine Ev.of (by decide) (Nat.le_of_ble_eq_true rfl) rfl ?_
  refine g_iload_n (pc' := 1) dX11_seed_0 rfl 1 rfl rfl ?_
  refine g_if_ge (pc' := 4) (tgt := 7) dX11_seed_1 rfl (by decide) (fun (c1 : 0 ≤ (x1 : Int32)) => ?_) (fun (c1 : ¬ 0 ≤ (x1 : Int32)) => ?_)
  · refine g_aload_n (pc' := 8) dX11_seed_7 rfl 0 rfl rfl ?_
    refine g_getI (pc' := 11) dX11_seed_8 rfl (PLk.lf fX11_275) o159 rfl ?_
    refine g_istore_n (pc' := 12) (j := 2) (lv' := [(2, .int (σ.1 159 5)), (0, .ref (b + 159)), (1, .int (x1))]) dX11_seed_11 rfl rfl (by decide) rfl ?_
    refine g_aload_n (pc' := 13) dX11_seed_12 rfl 1 rfl rfl ?_
    refine g_iload_n (pc' := 14) dX11_seed_13 rfl 2 rfl rfl ?_
    refine g_putI (pc' := 17) dX11_seed_14 rfl fX11_275 o159 rfl ?_
    refine g_iload_n (pc' := 18) dX11_seed_17 rfl 0 rfl rfl ?_
    exact g_iret dX11_seed_18 rfl ⟨rfl, rfl⟩ (by simp only [rX11_seed, sX11_seed, if_pos c1, bI_t, bI_f])
  · refine g_ldc (pc' := 6) dX11_seed_4 rfl kX11_85 ?_
    exact g_iret dX11_seed_6 rfl ⟨rfl, rfl⟩ (by simp only [rX11_seed, sX11_seed, if_neg c1, bI_t, bI_f])
def rX11_floor  (x1 : Int64) (x2 : Int64) (σ : Sg) : Int64 := if ((x1 / x2) * x2 : Int64) = x1 then x1 / x2 else if (x1 : Int64) < 0 then if (x2 : Int64) < 0 then x1 / x2 else (x1 / x2) - 1 else if (x2 : Int64) < 0 then (x1 / x2) - 1 else x1 / x2
set_option maxRecDepth 100000 in
set_option maxHeartbeats 4000000 in
theorem ev_X11_floor {l : Launch} {b : Nat} {cy : Nat → ClassId} {D : va_G} {d : Nat}  {x1 : Int64} {x2 : Int64} {σ : Sg}  (h0 : ¬ x2 = 0) : Es l b cy D (d + 0) yX11_floor cX11_floor (Option.some Jvm.ClassFile.FieldType.long) 6 [.long (x1), .long (x2)] σ (some (.long (rX11_floor x1 x2 σ))) σ := by
  refine Ev.of (by decide) (Nat.le_of_ble_eq_true rfl) rfl ?_
  refine g_lload_n (pc' := 1) dX11_floor_0 rfl 0 rfl rfl ?_
  refine g_lload_n (pc' := 2) dX11_floor_1 rfl 1 rfl rfl ?_
  refine g_ldiv (pc' := 3) dX11_floor_2 rfl h0 ?_
  refine g_lstore (pc' := 5) (j := 4) (lv' := [(4, .long (x1 / x2)), (0, .long (x1)), (2, .long (x2))]) dX11_floor_3 rfl (by decide) rfl ?_
  refine g_lload (pc' := 7) dX11_floor_5 rfl 0 rfl ?_
  refine g_lload_n (pc' := 8) dX11_floor_7 rfl 2 rfl rfl ?_
  refine g_lmul (pc' := 9) dX11_floor_8 rfl ?_
  refine g_lload_n (pc' := 10) dX11_floor_9 rfl 1 rfl rfl ?_
  refine g_lif_eq (pc' := 14) (tgt := 46) dX11_floor_10 dX11_floor_11 rfl (by decide) (fun (c1 : ((x1 / x2) * x2 : Int64) = x1) => ?_) (fun (c1 : ¬ ((x1 / x2) * x2 : Int64) = x1) => ?_)
  · refine g_lload (pc' := 48) dX11_floor_46 rfl 0 rfl ?_
    exact g_lret dX11_floor_48 rfl ⟨rfl, rfl⟩ (by simp only [rX11_floor, if_pos c1, bI_t, bI_f])
  · refine g_lload_n (pc' := 15) dX11_floor_14 rfl 1 rfl rfl ?_
    refine g_lconst (pc' := 16) (v := 0) dX11_floor_15 rfl (by decide) ?_
    refine g_lif_ge (pc' := 20) (tgt := 24) dX11_floor_16 dX11_floor_17 rfl (by decide) (fun (c2 : ¬ (x1 : Int64) < 0) => ?_) (fun (c2 : (x1 : Int64) < 0) => ?_)
    · refine g_iconst (pc' := 25) (v := 0) dX11_floor_24 rfl (by decide) ?_
      refine g_lload_n (pc' := 26) dX11_floor_25 rfl 2 rfl rfl ?_
      refine g_lconst (pc' := 27) (v := 0) dX11_floor_26 rfl (by decide) ?_
      refine g_lif_ge (pc' := 31) (tgt := 35) dX11_floor_27 dX11_floor_28 rfl (by decide) (fun (c3 : ¬ (x2 : Int64) < 0) => ?_) (fun (c3 : (x2 : Int64) < 0) => ?_)
      · refine g_iconst (pc' := 36) (v := 0) dX11_floor_35 rfl (by decide) ?_
        refine g_icmp_eq (pc' := 39) (tgt := 46) dX11_floor_36 rfl (by decide) (fun _ => ?_) (fun z => absurd z (by decide))
        refine g_lload (pc' := 48) dX11_floor_46 rfl 0 rfl ?_
        exact g_lret dX11_floor_48 rfl ⟨rfl, rfl⟩ (by simp only [rX11_floor, if_neg c1, if_neg c2, if_neg c3, bI_t, bI_f])
      · refine g_iconst (pc' := 32) (v := 1) dX11_floor_31 rfl (by decide) ?_
        refine g_goto (tgt := 36) dX11_floor_32 (by decide) ?_
        refine g_icmp_eq (pc' := 39) (tgt := 46) dX11_floor_36 rfl (by decide) (fun z => absurd z (by decide)) (fun _ => ?_)
        refine g_lload (pc' := 41) dX11_floor_39 rfl 0 rfl ?_
        refine g_lconst (pc' := 42) (v := 1) dX11_floor_41 rfl (by decide) ?_
        refine g_lsub (pc' := 43) dX11_floor_42 rfl ?_
        refine g_goto (tgt := 48) dX11_floor_43 (by decide) ?_
        exact g_lret dX11_floor_48 rfl ⟨rfl, rfl⟩ (by simp only [rX11_floor, if_neg c1, if_neg c2, if_pos c3, bI_t, bI_f])
    · refine g_iconst (pc' := 21) (v := 1) dX11_floor_20 rfl (by decide) ?_
      refine g_goto (tgt := 25) dX11_floor_21 (by decide) ?_
      refine g_lload_n (pc' := 26) dX11_floor_25 rfl 2 rfl rfl ?_
      refine g_lconst (pc' := 27) (v := 0) dX11_floor_26 rfl (by decide) ?_
      refine g_lif_ge (pc' := 31) (tgt := 35) dX11_floor_27 dX11_floor_28 rfl (by decide) (fun (c6 : ¬ (x2 : Int64) < 0) => ?_) (fun (c6 : (x2 : Int64) < 0) => ?_)
      · refine g_iconst (pc' := 36) (v := 0) dX11_floor_35 rfl (by decide) ?_
        refine g_icmp_eq (pc' := 39) (tgt := 46) dX11_floor_36 rfl (by decide) (fun z => absurd z (by decide)) (fun _ => ?_)
        refine g_lload (pc' := 41) dX11_floor_39 rfl 0 rfl ?_
        refine g_lconst (pc' := 42) (v := 1) dX11_floor_41 rfl (by decide) ?_
        refine g_lsub (pc' := 43) dX11_floor_42 rfl ?_
        refine g_goto (tgt := 48) dX11_floor_43 (by decide) ?_
        exact g_lret dX11_floor_48 rfl ⟨rfl, rfl⟩ (by simp only [rX11_floor, if_neg c1, if_pos c2, if_neg c6, bI_t, bI_f])
      · refine g_iconst (pc' := 32) (v := 1) dX11_floor_31 rfl (by decide) ?_
        refine g_goto (tgt := 36) dX11_floor_32 (by decide) ?_
        refine g_icmp_eq (pc' := 39) (tgt := 46) dX11_floor_36 rfl (by decide) (fun _ => ?_) (fun z => absurd z (by decide))
        refine g_lload (pc' := 48) dX11_floor_46 rfl 0 rfl ?_
        exact g_lret dX11_floor_48 rfl ⟨rfl, rfl⟩ (by simp only [rX11_floor, if_neg c1, if_pos c2, if_pos c6, bI_t, bI_f])
def rX11_part  (x1 : Int64) (x2 : Int64) (x3 : Int64) (σ : Sg) : Int64 := if (x2 : Int64) < 0 then rX11_floor ((0 - x1) + x3) (rX11_far x2 σ) σ else rX11_floor (x1 + x3) (rX11_far x2 σ) σ
set_option maxRecDepth 100000 in
set_option maxHeartbeats 4000000 in
theorem ev_X11_part {l : Launch} {b : Nat} {cy : Nat → ClassId} {D : va_G} {d : Nat}  {x1 : Int64} {x2 : Int64} {x3 : Int64} {σ : Sg}  (h0 : ¬ rX11_far x2 σ = 0) : Es l b cy D (d + 1) yX11_part cX11_part (Option.some Jvm.ClassFile.FieldType.long) 6 [.long (x1), .long (x2), .long (x3)] σ (some (.long (rX11_part x1 x2 x3 σ))) σ := by
  refine Ev.of (by decide) (Nat.le_of_ble_eq_true rfl) rfl ?_
  refine g_lload_n (pc' := 1) dX11_part_0 rfl 1 rfl rfl ?_
  refine g_lconst (pc' := 2) (v := 0) dX11_part_1 rfl (by decide) ?_
  refine g_lif_ge (pc' := 6) (tgt := 12) dX11_part_2 dX11_part_3 rfl (by decide) (fun (c1 : ¬ (x2 : Int64) < 0) => ?_) (fun (c1 : (x2 : Int64) < 0) => ?_)
  · refine g_lload_n (pc' := 13) dX11_part_12 rfl 0 rfl rfl ?_
    refine g_lload (pc' := 15) dX11_part_13 rfl 2 rfl ?_
    refine g_ladd (pc' := 16) dX11_part_15 rfl ?_
    refine g_lload_n (pc' := 17) dX11_part_16 rfl 1 rfl rfl ?_
    refine g_callsr (pc' := 20) dX11_part_17 rfl mX11_116 (ev_X11_far (x1 := x2) (σ := σ)  (d := d)) (rm_ok (by omega) (by decide)) ⟨rfl, rfl⟩ ⟨Nat.zero_le _, Nat.zero_le _⟩ rfl rfl (Nat.le_of_ble_eq_true rfl) ?_
    refine g_callsr (pc' := 23) dX11_part_20 rfl mX11_122 (ev_X11_floor (x1 := x1 + x3) (x2 := rX11_far x2 σ) (σ := σ) h0 (d := d)) (rm_ok (by omega) (by decide)) ⟨rfl, rfl⟩ ⟨Nat.zero_le _, Nat.zero_le _⟩ rfl rfl (Nat.le_of_ble_eq_true rfl) ?_
    exact g_lret dX11_part_23 rfl ⟨rfl, rfl⟩ (by simp only [rX11_part, if_neg c1, bI_t, bI_f])
  · refine g_lconst (pc' := 7) (v := 0) dX11_part_6 rfl (by decide) ?_
    refine g_lload_n (pc' := 8) dX11_part_7 rfl 0 rfl rfl ?_
    refine g_lsub (pc' := 9) dX11_part_8 rfl ?_
    refine g_goto (tgt := 13) dX11_part_9 (by decide) ?_
    refine g_lload (pc' := 15) dX11_part_13 rfl 2 rfl ?_
    refine g_ladd (pc' := 16) dX11_part_15 rfl ?_
    refine g_lload_n (pc' := 17) dX11_part_16 rfl 1 rfl rfl ?_
    refine g_callsr (pc' := 20) dX11_part_17 rfl mX11_116 (ev_X11_far (x1 := x2) (σ := σ)  (d := d)) (rm_ok (by omega) (by decide)) ⟨rfl, rfl⟩ ⟨Nat.zero_le _, Nat.zero_le _⟩ rfl rfl (Nat.le_of_ble_eq_true rfl) ?_
    refine g_callsr (pc' := 23) dX11_part_20 rfl mX11_122 (ev_X11_floor (x1 := (0 - x1) + x3) (x2 := rX11_far x2 σ) (σ := σ) h0 (d := d)) (rm_ok (by omega) (by decide)) ⟨rfl, rfl⟩ ⟨Nat.zero_le _, Nat.zero_le _⟩ rfl rfl (Nat.le_of_ble_eq_true rfl) ?_
    exact g_lret dX11_part_23 rfl ⟨rfl, rfl⟩ (by simp only [rX11_part, if_pos c1, bI_t, bI_f])
def sX11_takesFrom (s : Nat) (x1 : Int32) (σ : Sg) : Sg := sX11_takes ((σ.1 160 (1 + 4 * s) : Int32).toInt64) ((σ.1 160 (2 + 4 * s) : Int32).toInt64) ((σ.1 160 (3 + 4 * s) : Int32).toInt64) ((σ.1 160 (4 + 4 * s) : Int32).toInt64) σ
set_option maxRecDepth 100000 in
set_option maxHeartbeats 4000000 in
theorem ev_X11_takesFrom {l : Launch} {b : Nat} {cy : Nat → ClassId} {D : va_G} {d : Nat} {s : Nat} {x1 : Int32} {σ : Sg}  (q1 : x1 = nI s) (hs : s < 12) : Es l b cy D (d + 1) yX11_takesFrom cX11_takesFrom (Option.none : Option Jvm.ClassFile.FieldType) 2 [.ref (b + 159), .int (x1)] σ none (sX11_takesFrom s x1 σ) := by
  refine Ev.of (by decide) (Nat.le_of_ble_eq_true rfl) rfl ?_
  refine g_aload_n (pc' := 1) dX11_takesFrom_0 rfl 0 rfl rfl ?_
  refine g_aload_n (pc' := 2) dX11_takesFrom_1 rfl 0 rfl rfl ?_
  refine g_getR (pc' := 5) (a := 160) dX11_takesFrom_2 rfl (PLk.lf fX11_7) o159 rfl ?_
  refine g_iconst (pc' := 6) (v := 1) dX11_takesFrom_5 rfl (by decide) ?_
  refine g_iconst (pc' := 7) (v := 4) dX11_takesFrom_6 rfl (by decide) ?_
  refine g_iload_n (pc' := 8) dX11_takesFrom_7 rfl 1 rfl rfl ?_
  refine g_imul (pc' := 9) dX11_takesFrom_8 rfl ?_
  refine g_iadd (pc' := 10) dX11_takesFrom_9 rfl ?_
  refine g_iald (pc' := 11) (j := (1 + 4 * s)) dX11_takesFrom_10 rfl o160 (by decide) (by rw [q1]; exact i14 1 s) (by omega) ?_
  refine g_i2l (pc' := 12) dX11_takesFrom_11 rfl ?_
  refine g_aload_n (pc' := 13) dX11_takesFrom_12 rfl 0 rfl rfl ?_
  refine g_getR (pc' := 16) (a := 160) dX11_takesFrom_13 rfl (PLk.lf fX11_7) o159 rfl ?_
  refine g_iconst (pc' := 17) (v := 2) dX11_takesFrom_16 rfl (by decide) ?_
  refine g_iconst (pc' := 18) (v := 4) dX11_takesFrom_17 rfl (by decide) ?_
  refine g_iload_n (pc' := 19) dX11_takesFrom_18 rfl 1 rfl rfl ?_
  refine g_imul (pc' := 20) dX11_takesFrom_19 rfl ?_
  refine g_iadd (pc' := 21) dX11_takesFrom_20 rfl ?_
  refine g_iald (pc' := 22) (j := (2 + 4 * s)) dX11_takesFrom_21 rfl o160 (by decide) (by rw [q1]; exact i14 2 s) (by omega) ?_
  refine g_i2l (pc' := 23) dX11_takesFrom_22 rfl ?_
  refine g_aload_n (pc' := 24) dX11_takesFrom_23 rfl 0 rfl rfl ?_
  refine g_getR (pc' := 27) (a := 160) dX11_takesFrom_24 rfl (PLk.lf fX11_7) o159 rfl ?_
  refine g_iconst (pc' := 28) (v := 3) dX11_takesFrom_27 rfl (by decide) ?_
  refine g_iconst (pc' := 29) (v := 4) dX11_takesFrom_28 rfl (by decide) ?_
  refine g_iload_n (pc' := 30) dX11_takesFrom_29 rfl 1 rfl rfl ?_
  refine g_imul (pc' := 31) dX11_takesFrom_30 rfl ?_
  refine g_iadd (pc' := 32) dX11_takesFrom_31 rfl ?_
  refine g_iald (pc' := 33) (j := (3 + 4 * s)) dX11_takesFrom_32 rfl o160 (by decide) (by rw [q1]; exact i14 3 s) (by omega) ?_
  refine g_i2l (pc' := 34) dX11_takesFrom_33 rfl ?_
  refine g_aload_n (pc' := 35) dX11_takesFrom_34 rfl 0 rfl rfl ?_
  refine g_getR (pc' := 38) (a := 160) dX11_takesFrom_35 rfl (PLk.lf fX11_7) o159 rfl ?_
  refine g_iconst (pc' := 39) (v := 4) dX11_takesFrom_38 rfl (by decide) ?_
  refine g_iconst (pc' := 40) (v := 4) dX11_takesFrom_39 rfl (by decide) ?_
  refine g_iload_n (pc' := 41) dX11_takesFrom_40 rfl 1 rfl rfl ?_
  refine g_imul (pc' := 42) dX11_takesFrom_41 rfl ?_
  refine g_iadd (pc' := 43) dX11_takesFrom_42 rfl ?_
  refine g_iald (pc' := 44) (j := (4 + 4 * s)) dX11_takesFrom_43 rfl o160 (by decide) (by rw [q1]; exact i14 4 s) (by omega) ?_
  refine g_i2l (pc' := 45) dX11_takesFrom_44 rfl ?_
  refine g_callv (pc' := 48) dX11_takesFrom_45 rfl mX11_70 (ev_X11_takes (x1 := (σ.1 160 (1 + 4 * s) : Int32).toInt64) (x2 := (σ.1 160 (2 + 4 * s) : Int32).toInt64) (x3 := (σ.1 160 (3 + 4 * s) : Int32).toInt64) (x4 := (σ.1 160 (4 + 4 * s) : Int32).toInt64) (σ := σ)  (d := d)) o159 rfl (rm_ok (by omega) (by decide)) ⟨rfl, rfl⟩ ⟨Nat.zero_le _, Nat.zero_le _⟩ rfl rfl (Nat.le_of_ble_eq_true rfl) ?_
  exact g_vret dX11_takesFrom_48 rfl ⟨rfl, rfl⟩ rfl
def rX11_isAt (s : Nat) (x1 : Int32) (σ : Sg) : Bool := if (σ.2 159 11 : Int64) = ((σ.1 160 (1 + 4 * s) : Int32).toInt64) then if (σ.2 159 12 : Int64) = ((σ.1 160 (2 + 4 * s) : Int32).toInt64) then if (σ.2 159 13 : Int64) = ((σ.1 160 (3 + 4 * s) : Int32).toInt64) then if (σ.2 159 14 : Int64) = ((σ.1 160 (4 + 4 * s) : Int32).toInt64) then true else false else false else false else false
set_option maxRecDepth 100000 in
set_option maxHeartbeats 4000000 in
theorem ev_X11_isAt {l : Launch} {b : Nat} {cy : Nat → ClassId} {D : va_G} {d : Nat} {s : Nat} {x1 : Int32} {σ : Sg}  (q1 : x1 = nI s) (hs : s < 12) : Es l b cy D (d + 0) yX11_isAt cX11_isAt (Option.some Jvm.ClassFile.FieldType.boolean) 2 [.ref (b + 159), .int (x1)] σ (some (.int (bI (rX11_isAt s x1 σ)))) σ := by
  refine Ev.of (by decide) (Nat.le_of_ble_eq_true rfl) rfl ?_
  refine g_aload_n (pc' := 1) dX11_isAt_0 rfl 0 rfl rfl ?_
  refine g_getL (pc' := 4) dX11_isAt_1 rfl (PLk.lf fX11_57) o159 rfl ?_
  refine g_aload_n (pc' := 5) dX11_isAt_4 rfl 0 rfl rfl ?_
  refine g_getR (pc' := 8) (a := 160) dX11_isAt_5 rfl (PLk.lf fX11_7) o159 rfl ?_
  refine g_iconst (pc' := 9) (v := 1) dX11_isAt_8 rfl (by decide) ?_
  refine g_iconst (pc' := 10) (v := 4) dX11_isAt_9 rfl (by decide) ?_
  refine g_iload_n (pc' := 11) dX11_isAt_10 rfl 1 rfl rfl ?_
  refine g_imul (pc' := 12) dX11_isAt_11 rfl ?_
  refine g_iadd (pc' := 13) dX11_isAt_12 rfl ?_
  refine g_iald (pc' := 14) (j := (1 + 4 * s)) dX11_isAt_13 rfl o160 (by decide) (by rw [q1]; exact i14 1 s) (by omega) ?_
  refine g_i2l (pc' := 15) dX11_isAt_14 rfl ?_
  refine g_lif_ne (pc' := 19) (tgt := 80) dX11_isAt_15 dX11_isAt_16 rfl (by decide) (fun (c1 : ¬ (σ.2 159 11 : Int64) = ((σ.1 160 (1 + 4 * s) : Int32).toInt64)) => ?_) (fun (c1 : (σ.2 159 11 : Int64) = ((σ.1 160 (1 + 4 * s) : Int32).toInt64)) => ?_)
  · refine g_iconst (pc' := 81) (v := 0) dX11_isAt_80 rfl (by decide) ?_
    exact g_zret dX11_isAt_81 rfl (Or.inl rfl) ⟨rfl, rfl⟩ (by simp only [rX11_isAt, if_neg c1, bI_t, bI_f])
  · refine g_aload_n (pc' := 20) dX11_isAt_19 rfl 0 rfl rfl ?_
    refine g_getL (pc' := 23) dX11_isAt_20 rfl (PLk.lf fX11_61) o159 rfl ?_
    refine g_aload_n (pc' := 24) dX11_isAt_23 rfl 0 rfl rfl ?_
    refine g_getR (pc' := 27) (a := 160) dX11_isAt_24 rfl (PLk.lf fX11_7) o159 rfl ?_
    refine g_iconst (pc' := 28) (v := 2) dX11_isAt_27 rfl (by decide) ?_
    refine g_iconst (pc' := 29) (v := 4) dX11_isAt_28 rfl (by decide) ?_
    refine g_iload_n (pc' := 30) dX11_isAt_29 rfl 1 rfl rfl ?_
    refine g_imul (pc' := 31) dX11_isAt_30 rfl ?_
    refine g_iadd (pc' := 32) dX11_isAt_31 rfl ?_
    refine g_iald (pc' := 33) (j := (2 + 4 * s)) dX11_isAt_32 rfl o160 (by decide) (by rw [q1]; exact i14 2 s) (by omega) ?_
    refine g_i2l (pc' := 34) dX11_isAt_33 rfl ?_
    refine g_lif_ne (pc' := 38) (tgt := 80) dX11_isAt_34 dX11_isAt_35 rfl (by decide) (fun (c2 : ¬ (σ.2 159 12 : Int64) = ((σ.1 160 (2 + 4 * s) : Int32).toInt64)) => ?_) (fun (c2 : (σ.2 159 12 : Int64) = ((σ.1 160 (2 + 4 * s) : Int32).toInt64)) => ?_)
    · refine g_iconst (pc' := 81) (v := 0) dX11_isAt_80 rfl (by decide) ?_
      exact g_zret dX11_isAt_81 rfl (Or.inl rfl) ⟨rfl, rfl⟩ (by simp only [rX11_isAt, if_pos c1, if_neg c2, bI_t, bI_f])
    · refine g_aload_n (pc' := 39) dX11_isAt_38 rfl 0 rfl rfl ?_
      refine g_getL (pc' := 42) dX11_isAt_39 rfl (PLk.lf fX11_64) o159 rfl ?_
      refine g_aload_n (pc' := 43) dX11_isAt_42 rfl 0 rfl rfl ?_
      refine g_getR (pc' := 46) (a := 160) dX11_isAt_43 rfl (PLk.lf fX11_7) o159 rfl ?_
      refine g_iconst (pc' := 47) (v := 3) dX11_isAt_46 rfl (by decide) ?_
      refine g_iconst (pc' := 48) (v := 4) dX11_isAt_47 rfl (by decide) ?_
      refine g_iload_n (pc' := 49) dX11_isAt_48 rfl 1 rfl rfl ?_
      refine g_imul (pc' := 50) dX11_isAt_49 rfl ?_
      refine g_iadd (pc' := 51) dX11_isAt_50 rfl ?_
      refine g_iald (pc' := 52) (j := (3 + 4 * s)) dX11_isAt_51 rfl o160 (by decide) (by rw [q1]; exact i14 3 s) (by omega) ?_
      refine g_i2l (pc' := 53) dX11_isAt_52 rfl ?_
      refine g_lif_ne (pc' := 57) (tgt := 80) dX11_isAt_53 dX11_isAt_54 rfl (by decide) (fun (c3 : ¬ (σ.2 159 13 : Int64) = ((σ.1 160 (3 + 4 * s) : Int32).toInt64)) => ?_) (fun (c3 : (σ.2 159 13 : Int64) = ((σ.1 160 (3 + 4 * s) : Int32).toInt64)) => ?_)
      · refine g_iconst (pc' := 81) (v := 0) dX11_isAt_80 rfl (by decide) ?_
        exact g_zret dX11_isAt_81 rfl (Or.inl rfl) ⟨rfl, rfl⟩ (by simp only [rX11_isAt, if_pos c1, if_pos c2, if_neg c3, bI_t, bI_f])
      · refine g_aload_n (pc' := 58) dX11_isAt_57 rfl 0 rfl rfl ?_
        refine g_getL (pc' := 61) dX11_isAt_58 rfl (PLk.lf fX11_67) o159 rfl ?_
        refine g_aload_n (pc' := 62) dX11_isAt_61 rfl 0 rfl rfl ?_
        refine g_getR (pc' := 65) (a := 160) dX11_isAt_62 rfl (PLk.lf fX11_7) o159 rfl ?_
        refine g_iconst (pc' := 66) (v := 4) dX11_isAt_65 rfl (by decide) ?_
        refine g_iconst (pc' := 67) (v := 4) dX11_isAt_66 rfl (by decide) ?_
        refine g_iload_n (pc' := 68) dX11_isAt_67 rfl 1 rfl rfl ?_
        refine g_imul (pc' := 69) dX11_isAt_68 rfl ?_
        refine g_iadd (pc' := 70) dX11_isAt_69 rfl ?_
        refine g_iald (pc' := 71) (j := (4 + 4 * s)) dX11_isAt_70 rfl o160 (by decide) (by rw [q1]; exact i14 4 s) (by omega) ?_
        refine g_i2l (pc' := 72) dX11_isAt_71 rfl ?_
        refine g_lif_ne (pc' := 76) (tgt := 80) dX11_isAt_72 dX11_isAt_73 rfl (by decide) (fun (c4 : ¬ (σ.2 159 14 : Int64) = ((σ.1 160 (4 + 4 * s) : Int32).toInt64)) => ?_) (fun (c4 : (σ.2 159 14 : Int64) = ((σ.1 160 (4 + 4 * s) : Int32).toInt64)) => ?_)
        · refine g_iconst (pc' := 81) (v := 0) dX11_isAt_80 rfl (by decide) ?_
          exact g_zret dX11_isAt_81 rfl (Or.inl rfl) ⟨rfl, rfl⟩ (by simp only [rX11_isAt, if_pos c1, if_pos c2, if_pos c3, if_neg c4, bI_t, bI_f])
        · refine g_iconst (pc' := 77) (v := 1) dX11_isAt_76 rfl (by decide) ?_
          refine g_goto (tgt := 81) dX11_isAt_77 (by decide) ?_
          exact g_zret dX11_isAt_81 rfl (Or.inr rfl) ⟨rfl, rfl⟩ (by simp only [rX11_isAt, if_pos c1, if_pos c2, if_pos c3, if_pos c4, bI_t, bI_f])
def sX11_laysAt (s : Nat) (x1 : Int32) (σ : Sg) : Sg := (u2 (u2 (u2 (u2 σ.1 160 (1 + 4 * s) ((σ.2 159 11 : Int64).toInt32)) 160 (2 + 4 * s) ((σ.2 159 12 : Int64).toInt32)) 160 (3 + 4 * s) ((σ.2 159 13 : Int64).toInt32)) 160 (4 + 4 * s) ((σ.2 159 14 : Int64).toInt32), σ.2)
set_option maxRecDepth 100000 in
set_option maxHeartbeats 4000000 in
theorem ev_X11_laysAt {l : Launch} {b : Nat} {cy : Nat → ClassId} {D : va_G} {d : Nat} {s : Nat} {x1 : Int32} {σ : Sg}  (q1 : x1 = nI s) (hs : s < 12) : Es l b cy D (d + 0) yX11_laysAt cX11_laysAt (Option.none : Option Jvm.ClassFile.FieldType) 2 [.ref (b + 159), .int (x1)] σ none (sX11_laysAt s x1 σ) := by
  refine Ev.of (by decide) (Nat.le_of_ble_eq_true rfl) rfl ?_
  refine g_aload_n (pc' := 1) dX11_laysAt_0 rfl 0 rfl rfl ?_
  refine g_getR (pc' := 4) (a := 160) dX11_laysAt_1 rfl (PLk.lf fX11_7) o159 rfl ?_
  refine g_iconst (pc' := 5) (v := 1) dX11_laysAt_4 rfl (by decide) ?_
  refine g_iconst (pc' := 6) (v := 4) dX11_laysAt_5 rfl (by decide) ?_
  refine g_iload_n (pc' := 7) dX11_laysAt_6 rfl 1 rfl rfl ?_
  refine g_imul (pc' := 8) dX11_laysAt_7 rfl ?_
  refine g_iadd (pc' := 9) dX11_laysAt_8 rfl ?_
  refine g_aload_n (pc' := 10) dX11_laysAt_9 rfl 0 rfl rfl ?_
  refine g_getL (pc' := 13) dX11_laysAt_10 rfl (PLk.lf fX11_57) o159 rfl ?_
  refine g_l2i (pc' := 14) dX11_laysAt_13 rfl ?_
  refine g_iast (pc' := 15) (j := (1 + 4 * s)) dX11_laysAt_14 rfl (by decide) o160 (by decide) (by rw [q1]; exact i14 1 s) (by omega) ?_
  refine g_aload_n (pc' := 16) dX11_laysAt_15 rfl 0 rfl rfl ?_
  refine g_getR (pc' := 19) (a := 160) dX11_laysAt_16 rfl (PLk.lf fX11_7) o159 rfl ?_
  refine g_iconst (pc' := 20) (v := 2) dX11_laysAt_19 rfl (by decide) ?_
  refine g_iconst (pc' := 21) (v := 4) dX11_laysAt_20 rfl (by decide) ?_
  refine g_iload_n (pc' := 22) dX11_laysAt_21 rfl 1 rfl rfl ?_
  refine g_imul (pc' := 23) dX11_laysAt_22 rfl ?_
  refine g_iadd (pc' := 24) dX11_laysAt_23 rfl ?_
  refine g_aload_n (pc' := 25) dX11_laysAt_24 rfl 0 rfl rfl ?_
  refine g_getL (pc' := 28) dX11_laysAt_25 rfl (PLk.lf fX11_61) o159 rfl ?_
  refine g_l2i (pc' := 29) dX11_laysAt_28 rfl ?_
  refine g_iast (pc' := 30) (j := (2 + 4 * s)) dX11_laysAt_29 rfl (by decide) o160 (by decide) (by rw [q1]; exact i14 2 s) (by omega) ?_
  refine g_aload_n (pc' := 31) dX11_laysAt_30 rfl 0 rfl rfl ?_
  refine g_getR (pc' := 34) (a := 160) dX11_laysAt_31 rfl (PLk.lf fX11_7) o159 rfl ?_
  refine g_iconst (pc' := 35) (v := 3) dX11_laysAt_34 rfl (by decide) ?_
  refine g_iconst (pc' := 36) (v := 4) dX11_laysAt_35 rfl (by decide) ?_
  refine g_iload_n (pc' := 37) dX11_laysAt_36 rfl 1 rfl rfl ?_
  refine g_imul (pc' := 38) dX11_laysAt_37 rfl ?_
  refine g_iadd (pc' := 39) dX11_laysAt_38 rfl ?_
  refine g_aload_n (pc' := 40) dX11_laysAt_39 rfl 0 rfl rfl ?_
  refine g_getL (pc' := 43) dX11_laysAt_40 rfl (PLk.lf fX11_64) o159 rfl ?_
  refine g_l2i (pc' := 44) dX11_laysAt_43 rfl ?_
  refine g_iast (pc' := 45) (j := (3 + 4 * s)) dX11_laysAt_44 rfl (by decide) o160 (by decide) (by rw [q1]; exact i14 3 s) (by omega) ?_
  refine g_aload_n (pc' := 46) dX11_laysAt_45 rfl 0 rfl rfl ?_
  refine g_getR (pc' := 49) (a := 160) dX11_laysAt_46 rfl (PLk.lf fX11_7) o159 rfl ?_
  refine g_iconst (pc' := 50) (v := 4) dX11_laysAt_49 rfl (by decide) ?_
  refine g_iconst (pc' := 51) (v := 4) dX11_laysAt_50 rfl (by decide) ?_
  refine g_iload_n (pc' := 52) dX11_laysAt_51 rfl 1 rfl rfl ?_
  refine g_imul (pc' := 53) dX11_laysAt_52 rfl ?_
  refine g_iadd (pc' := 54) dX11_laysAt_53 rfl ?_
  refine g_aload_n (pc' := 55) dX11_laysAt_54 rfl 0 rfl rfl ?_
  refine g_getL (pc' := 58) dX11_laysAt_55 rfl (PLk.lf fX11_67) o159 rfl ?_
  refine g_l2i (pc' := 59) dX11_laysAt_58 rfl ?_
  refine g_iast (pc' := 60) (j := (4 + 4 * s)) dX11_laysAt_59 rfl (by decide) o160 (by decide) (by rw [q1]; exact i14 4 s) (by omega) ?_
  exact g_vret dX11_laysAt_60 rfl ⟨rfl, rfl⟩ rfl
def rX11_isProduct (s : Nat) (x1 : Int32) (σ : Sg) : Bool := if (σ.1 160 (1 + 4 * s) : Int32) < 0 then false else if (σ.1 160 (2 + 4 * s) : Int32) < 0 then false else if (σ.1 160 (3 + 4 * s) : Int32) < 0 then false else if (σ.1 160 (4 + 4 * s) : Int32) < 0 then false else true
set_option maxRecDepth 100000 in
set_option maxHeartbeats 4000000 in
theorem ev_X11_isProduct {l : Launch} {b : Nat} {cy : Nat → ClassId} {D : va_G} {d : Nat} {s : Nat} {x1 : Int32} {σ : Sg}  (q1 : x1 = nI s) (hs : s < 12) : Es l b cy D (d + 0) yX11_isProduct cX11_isProduct (Option.some Jvm.ClassFile.FieldType.boolean) 2 [.ref (b + 159), .int (x1)] σ (some (.int (bI (rX11_isProduct s x1 σ)))) σ := by
  refine Ev.of (by decide) (Nat.le_of_ble_eq_true rfl) rfl ?_
  refine g_aload_n (pc' := 1) dX11_isProduct_0 rfl 0 rfl rfl ?_
  refine g_getR (pc' := 4) (a := 160) dX11_isProduct_1 rfl (PLk.lf fX11_7) o159 rfl ?_
  refine g_iconst (pc' := 5) (v := 1) dX11_isProduct_4 rfl (by decide) ?_
  refine g_iconst (pc' := 6) (v := 4) dX11_isProduct_5 rfl (by decide) ?_
  refine g_iload_n (pc' := 7) dX11_isProduct_6 rfl 1 rfl rfl ?_
  refine g_imul (pc' := 8) dX11_isProduct_7 rfl ?_
  refine g_iadd (pc' := 9) dX11_isProduct_8 rfl ?_
  refine g_iald (pc' := 10) (j := (1 + 4 * s)) dX11_isProduct_9 rfl o160 (by decide) (by rw [q1]; exact i14 1 s) (by omega) ?_
  refine g_if_lt (pc' := 13) (tgt := 56) dX11_isProduct_10 rfl (by decide) (fun (c1 : (σ.1 160 (1 + 4 * s) : Int32) < 0) => ?_) (fun (c1 : ¬ (σ.1 160 (1 + 4 * s) : Int32) < 0) => ?_)
  · refine g_iconst (pc' := 57) (v := 0) dX11_isProduct_56 rfl (by decide) ?_
    exact g_zret dX11_isProduct_57 rfl (Or.inl rfl) ⟨rfl, rfl⟩ (by simp only [rX11_isProduct, if_pos c1, bI_t, bI_f])
  · refine g_aload_n (pc' := 14) dX11_isProduct_13 rfl 0 rfl rfl ?_
    refine g_getR (pc' := 17) (a := 160) dX11_isProduct_14 rfl (PLk.lf fX11_7) o159 rfl ?_
    refine g_iconst (pc' := 18) (v := 2) dX11_isProduct_17 rfl (by decide) ?_
    refine g_iconst (pc' := 19) (v := 4) dX11_isProduct_18 rfl (by decide) ?_
    refine g_iload_n (pc' := 20) dX11_isProduct_19 rfl 1 rfl rfl ?_
    refine g_imul (pc' := 21) dX11_isProduct_20 rfl ?_
    refine g_iadd (pc' := 22) dX11_isProduct_21 rfl ?_
    refine g_iald (pc' := 23) (j := (2 + 4 * s)) dX11_isProduct_22 rfl o160 (by decide) (by rw [q1]; exact i14 2 s) (by omega) ?_
    refine g_if_lt (pc' := 26) (tgt := 56) dX11_isProduct_23 rfl (by decide) (fun (c2 : (σ.1 160 (2 + 4 * s) : Int32) < 0) => ?_) (fun (c2 : ¬ (σ.1 160 (2 + 4 * s) : Int32) < 0) => ?_)
    · refine g_iconst (pc' := 57) (v := 0) dX11_isProduct_56 rfl (by decide) ?_
      exact g_zret dX11_isProduct_57 rfl (Or.inl rfl) ⟨rfl, rfl⟩ (by simp only [rX11_isProduct, if_neg c1, if_pos c2, bI_t, bI_f])
    · refine g_aload_n (pc' := 27) dX11_isProduct_26 rfl 0 rfl rfl ?_
      refine g_getR (pc' := 30) (a := 160) dX11_isProduct_27 rfl (PLk.lf fX11_7) o159 rfl ?_
      refine g_iconst (pc' := 31) (v := 3) dX11_isProduct_30 rfl (by decide) ?_
      refine g_iconst (pc' := 32) (v := 4) dX11_isProduct_31 rfl (by decide) ?_
      refine g_iload_n (pc' := 33) dX11_isProduct_32 rfl 1 rfl rfl ?_
      refine g_imul (pc' := 34) dX11_isProduct_33 rfl ?_
      refine g_iadd (pc' := 35) dX11_isProduct_34 rfl ?_
      refine g_iald (pc' := 36) (j := (3 + 4 * s)) dX11_isProduct_35 rfl o160 (by decide) (by rw [q1]; exact i14 3 s) (by omega) ?_
      refine g_if_lt (pc' := 39) (tgt := 56) dX11_isProduct_36 rfl (by decide) (fun (c3 : (σ.1 160 (3 + 4 * s) : Int32) < 0) => ?_) (fun (c3 : ¬ (σ.1 160 (3 + 4 * s) : Int32) < 0) => ?_)
      · refine g_iconst (pc' := 57) (v := 0) dX11_isProduct_56 rfl (by decide) ?_
        exact g_zret dX11_isProduct_57 rfl (Or.inl rfl) ⟨rfl, rfl⟩ (by simp only [rX11_isProduct, if_neg c1, if_neg c2, if_pos c3, bI_t, bI_f])
      · refine g_aload_n (pc' := 40) dX11_isProduct_39 rfl 0 rfl rfl ?_
        refine g_getR (pc' := 43) (a := 160) dX11_isProduct_40 rfl (PLk.lf fX11_7) o159 rfl ?_
        refine g_iconst (pc' := 44) (v := 4) dX11_isProduct_43 rfl (by decide) ?_
        refine g_iconst (pc' := 45) (v := 4) dX11_isProduct_44 rfl (by decide) ?_
        refine g_iload_n (pc' := 46) dX11_isProduct_45 rfl 1 rfl rfl ?_
        refine g_imul (pc' := 47) dX11_isProduct_46 rfl ?_
        refine g_iadd (pc' := 48) dX11_isProduct_47 rfl ?_
        refine g_iald (pc' := 49) (j := (4 + 4 * s)) dX11_isProduct_48 rfl o160 (by decide) (by rw [q1]; exact i14 4 s) (by omega) ?_
        refine g_if_lt (pc' := 52) (tgt := 56) dX11_isProduct_49 rfl (by decide) (fun (c4 : (σ.1 160 (4 + 4 * s) : Int32) < 0) => ?_) (fun (c4 : ¬ (σ.1 160 (4 + 4 * s) : Int32) < 0) => ?_)
        · refine g_iconst (pc' := 57) (v := 0) dX11_isProduct_56 rfl (by decide) ?_
          exact g_zret dX11_isProduct_57 rfl (Or.inl rfl) ⟨rfl, rfl⟩ (by simp only [rX11_isProduct, if_neg c1, if_neg c2, if_neg c3, if_pos c4, bI_t, bI_f])
        · refine g_iconst (pc' := 53) (v := 1) dX11_isProduct_52 rfl (by decide) ?_
          refine g_goto (tgt := 57) dX11_isProduct_53 (by decide) ?_
          exact g_zret dX11_isProduct_57 rfl (Or.inr rfl) ⟨rfl, rfl⟩ (by simp only [rX11_isProduct, if_neg c1, if_neg c2, if_neg c3, if_neg c4, bI_t, bI_f])
def rX11_isSquare  (x1 : Int32) (σ : Sg) : Bool := rX11_in ((x1 : Int32).toInt64) 0 (((σ.1 160 0) - 1 : Int32).toInt64) σ
set_option maxRecDepth 100000 in
set_option maxHeartbeats 4000000 in
theorem ev_X11_isSquare {l : Launch} {b : Nat} {cy : Nat → ClassId} {D : va_G} {d : Nat}  {x1 : Int32} {σ : Sg}   : Es l b cy D (d + 1) yX11_isSquare cX11_isSquare (Option.some Jvm.ClassFile.FieldType.boolean) 2 [.ref (b + 159), .int (x1)] σ (some (.int (bI (rX11_isSquare x1 σ)))) σ := by
  refine Ev.of (by decide) (Nat.le_of_ble_eq_true rfl) rfl ?_
  refine g_iload_n (pc' := 1) dX11_isSquare_0 rfl 1 rfl rfl ?_
  refine g_i2l (pc' := 2) dX11_isSquare_1 rfl ?_
  refine g_lconst (pc' := 3) (v := 0) dX11_isSquare_2 rfl (by decide) ?_
  refine g_aload_n (pc' := 4) dX11_isSquare_3 rfl 0 rfl rfl ?_
  refine g_getR (pc' := 7) (a := 160) dX11_isSquare_4 rfl (PLk.lf fX11_7) o159 rfl ?_
  refine g_iconst (pc' := 8) (v := 0) dX11_isSquare_7 rfl (by decide) ?_
  refine g_iald (pc' := 9) (j := 0) dX11_isSquare_8 rfl o160 (by decide) (by decide) (by decide) ?_
  refine g_iconst (pc' := 10) (v := 1) dX11_isSquare_9 rfl (by decide) ?_
  refine g_isub (pc' := 11) dX11_isSquare_10 rfl ?_
  refine g_i2l (pc' := 12) dX11_isSquare_11 rfl ?_
  refine g_callsr (pc' := 15) dX11_isSquare_12 rfl mX11_53 (ev_X11_in (x1 := (x1 : Int32).toInt64) (x2 := 0) (x3 := ((σ.1 160 0) - 1 : Int32).toInt64) (σ := σ)  (d := d)) (rm_ok (by omega) (by decide)) ⟨rfl, rfl⟩ ⟨Nat.zero_le _, Nat.zero_le _⟩ rfl rfl (Nat.le_of_ble_eq_true rfl) ?_
  exact g_zret dX11_isSquare_15 rfl (bI_01 _) ⟨rfl, rfl⟩ rfl
