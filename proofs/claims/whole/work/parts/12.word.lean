def rX6_stepsToEvenOut (k : Nat)  (σ : Sg) : Int64 := if (2 * (rJ9_abs_067f4 (σ.2 k 2) σ) : Int64) = 0 then 0 else if (0 : Int64) < (σ.2 k 2) then rJ9_floorDiv_f86c9 (((σ.2 k 3) - (σ.2 k 0)) + ((2 * (rJ9_abs_067f4 (σ.2 k 2) σ)) / 2)) (2 * (rJ9_abs_067f4 (σ.2 k 2) σ)) σ else -(rJ9_floorDiv_f86c9 (((σ.2 k 3) - (σ.2 k 0)) + ((2 * (rJ9_abs_067f4 (σ.2 k 2) σ)) / 2)) (2 * (rJ9_abs_067f4 (σ.2 k 2) σ)) σ)
set_option maxRecDepth 100000 in
set_option maxHeartbeats 4000000 in
theorem ev_X6_stepsToEvenOut {l : Launch} {b : Nat} {cy : Nat → ClassId} {D : va_G} {d : Nat} {k : Nat}  {σ : Sg} (hk : Sq k)  : Es l b cy D (d + 1) yX6_stepsToEvenOut cX6_stepsToEvenOut (Option.some Jvm.ClassFile.FieldType.long) 5 [.ref (b + k)] σ (some (.long (rX6_stepsToEvenOut k σ))) σ := by
  refine Ev.of (by decide) (Nat.le_of_ble_eq_true rfl) rfl ?_
  refine g_ldc2 (pc' := 3) dX6_stepsToEvenOut_0 rfl kX6_43 ?_
  refine g_aload_n (pc' := 4) dX6_stepsToEvenOut_3 rfl 0 rfl rfl ?_
  refine g_getL (pc' := 7) dX6_stepsToEvenOut_4 rfl (PLk.lf fX6_18) hk rfl ?_
  refine g_callsr (pc' := 10) dX6_stepsToEvenOut_7 rfl mX6_45 (ev_J9_abs_067f4 (x1 := σ.2 k 2) (σ := σ)  (d := d)) (rm_ok (by omega) (by decide)) ⟨rfl, rfl⟩ ⟨Nat.zero_le _, Nat.zero_le _⟩ rfl rfl (Nat.le_of_ble_eq_true rfl) ?_
  refine g_lmul (pc' := 11) dX6_stepsToEvenOut_10 rfl ?_
  refine g_lstore_n (pc' := 12) (j := 1) (lv' := [(1, .long (2 * (rJ9_abs_067f4 (σ.2 k 2) σ))), (0, .ref (b + k))]) dX6_stepsToEvenOut_11 rfl rfl (by decide) rfl ?_
  refine g_lload_n (pc' := 13) dX6_stepsToEvenOut_12 rfl 0 rfl rfl ?_
  refine g_lconst (pc' := 14) (v := 0) dX6_stepsToEvenOut_13 rfl (by decide) ?_
  refine g_lif_ne (pc' := 18) (tgt := 20) dX6_stepsToEvenOut_14 dX6_stepsToEvenOut_15 rfl (by decide) (fun (c1 : ¬ (2 * (rJ9_abs_067f4 (σ.2 k 2) σ) : Int64) = 0) => ?_) (fun (c1 : (2 * (rJ9_abs_067f4 (σ.2 k 2) σ) : Int64) = 0) => ?_)
  · refine g_aload_n (pc' := 21) dX6_stepsToEvenOut_20 rfl 1 rfl rfl ?_
    refine g_getL (pc' := 24) dX6_stepsToEvenOut_21 rfl (PLk.lf fX6_21) hk rfl ?_
    refine g_aload_n (pc' := 25) dX6_stepsToEvenOut_24 rfl 1 rfl rfl ?_
    refine g_getL (pc' := 28) dX6_stepsToEvenOut_25 rfl (PLk.lf fX6_9) hk rfl ?_
    refine g_lsub (pc' := 29) dX6_stepsToEvenOut_28 rfl ?_
    refine g_lload_n (pc' := 30) dX6_stepsToEvenOut_29 rfl 0 rfl rfl ?_
    refine g_ldc2 (pc' := 33) dX6_stepsToEvenOut_30 rfl kX6_43 ?_
    refine g_ldiv (pc' := 34) dX6_stepsToEvenOut_33 rfl (by decide) ?_
    refine g_ladd (pc' := 35) dX6_stepsToEvenOut_34 rfl ?_
    refine g_lload_n (pc' := 36) dX6_stepsToEvenOut_35 rfl 0 rfl rfl ?_
    refine g_callsr (pc' := 39) dX6_stepsToEvenOut_36 rfl mX6_51 (ev_J9_floorDiv_f86c9 (x1 := ((σ.2 k 3) - (σ.2 k 0)) + ((2 * (rJ9_abs_067f4 (σ.2 k 2) σ)) / 2)) (x2 := 2 * (rJ9_abs_067f4 (σ.2 k 2) σ)) (σ := σ) c1 (d := d)) (rm_ok (by omega) (by decide)) ⟨rfl, rfl⟩ ⟨Nat.zero_le _, Nat.zero_le _⟩ rfl rfl (Nat.le_of_ble_eq_true rfl) ?_
    refine g_lstore_n (pc' := 40) (j := 3) (lv' := [(3, .long (rJ9_floorDiv_f86c9 (((σ.2 k 3) - (σ.2 k 0)) + ((2 * (rJ9_abs_067f4 (σ.2 k 2) σ)) / 2)) (2 * (rJ9_abs_067f4 (σ.2 k 2) σ)) σ)), (1, .long (2 * (rJ9_abs_067f4 (σ.2 k 2) σ))), (0, .ref (b + k))]) dX6_stepsToEvenOut_39 rfl rfl (by decide) rfl ?_
    refine g_aload_n (pc' := 41) dX6_stepsToEvenOut_40 rfl 2 rfl rfl ?_
    refine g_getL (pc' := 44) dX6_stepsToEvenOut_41 rfl (PLk.lf fX6_18) hk rfl ?_
    refine g_lconst (pc' := 45) (v := 0) dX6_stepsToEvenOut_44 rfl (by decide) ?_
    refine g_lif_le (pc' := 49) (tgt := 53) dX6_stepsToEvenOut_45 dX6_stepsToEvenOut_46 rfl (by decide) (fun (c2 : ¬ (0 : Int64) < (σ.2 k 2)) => ?_) (fun (c2 : (0 : Int64) < (σ.2 k 2)) => ?_)
    · refine g_lload_n (pc' := 54) dX6_stepsToEvenOut_53 rfl 0 rfl rfl ?_
      refine g_lneg (pc' := 55) dX6_stepsToEvenOut_54 rfl ?_
      exact g_lret dX6_stepsToEvenOut_55 rfl ⟨rfl, rfl⟩ (by simp only [rX6_stepsToEvenOut, if_neg c1, if_neg c2, bI_t, bI_f])
    · refine g_lload_n (pc' := 50) dX6_stepsToEvenOut_49 rfl 0 rfl rfl ?_
      refine g_goto (tgt := 55) dX6_stepsToEvenOut_50 (by decide) ?_
      exact g_lret dX6_stepsToEvenOut_55 rfl ⟨rfl, rfl⟩ (by simp only [rX6_stepsToEvenOut, if_neg c1, if_pos c2, bI_t, bI_f])
  · refine g_lconst (pc' := 19) (v := 0) dX6_stepsToEvenOut_18 rfl (by decide) ?_
    exact g_lret dX6_stepsToEvenOut_19 rfl ⟨rfl, rfl⟩ (by simp only [rX6_stepsToEvenOut, if_pos c1, bI_t, bI_f])
def sX9_copyFrom (k : Nat) (p : Nat) (i : Nat)  (σ : Sg) : Sg := sX6_copyFrom p i σ
set_option maxRecDepth 100000 in
set_option maxHeartbeats 4000000 in
theorem ev_X9_copyFrom {l : Launch} {b : Nat} {cy : Nat → ClassId} {D : va_G} {d : Nat} {k : Nat} {p : Nat} {i : Nat}  {σ : Sg} (hk : Wo k p) (hi : Sq i)  : Es l b cy D (d + 1) yX9_copyFrom cX9_copyFrom (Option.none : Option Jvm.ClassFile.FieldType) 2 [.ref (b + k), .ref (b + i)] σ none (sX9_copyFrom k p i σ) := by
  refine Ev.of (by decide) (Nat.le_of_ble_eq_true rfl) rfl ?_
  refine g_aload_n (pc' := 1) dX9_copyFrom_0 rfl 0 rfl rfl ?_
  refine g_getR (pc' := 4) (a := p) dX9_copyFrom_1 rfl (PLk.lf fX9_12) hk.1 rfl ?_
  refine g_aload_n (pc' := 5) dX9_copyFrom_4 rfl 1 rfl rfl ?_
  refine g_callv (pc' := 8) dX9_copyFrom_5 rfl mX9_18 (ev_X6_copyFrom (k := p) (i := i) (σ := σ) hk.2 hi (d := d)) hk.2 rfl (rm_ok (by omega) (by decide)) ⟨rfl, rfl⟩ ⟨Nat.zero_le _, Nat.zero_le _⟩ rfl rfl (Nat.le_of_ble_eq_true rfl) ?_
  exact g_vret dX9_copyFrom_8 rfl ⟨rfl, rfl⟩ rfl
def rX9_isEmpty (k : Nat) (p : Nat)  (σ : Sg) : Bool := rX6_isOne p σ
set_option maxRecDepth 100000 in
set_option maxHeartbeats 4000000 in
theorem ev_X9_isEmpty {l : Launch} {b : Nat} {cy : Nat → ClassId} {D : va_G} {d : Nat} {k : Nat} {p : Nat}  {σ : Sg} (hk : Wo k p)  : Es l b cy D (d + 1) yX9_isEmpty cX9_isEmpty (Option.some Jvm.ClassFile.FieldType.boolean) 1 [.ref (b + k)] σ (some (.int (bI (rX9_isEmpty k p σ)))) σ := by
  refine Ev.of (by decide) (Nat.le_of_ble_eq_true rfl) rfl ?_
  refine g_aload_n (pc' := 1) dX9_isEmpty_0 rfl 0 rfl rfl ?_
  refine g_getR (pc' := 4) (a := p) dX9_isEmpty_1 rfl (PLk.lf fX9_12) hk.1 rfl ?_
  refine g_callr (pc' := 7) dX9_isEmpty_4 rfl mX9_22 (ev_X6_isOne (k := p) (σ := σ) hk.2 (d := d)) hk.2 rfl (rm_ok (by omega) (by decide)) ⟨rfl, rfl⟩ ⟨Nat.zero_le _, Nat.zero_le _⟩ rfl rfl (Nat.le_of_ble_eq_true rfl) ?_
  exact g_zret dX9_isEmpty_7 rfl (bI_01 _) ⟨rfl, rfl⟩ rfl
def rX9_beginsWithR (k : Nat) (p : Nat)  (σ : Sg) : Bool := if (σ.2 p 0 : Int64) < (σ.2 p 2) then false else if (σ.2 p 1 : Int64) < (σ.2 p 3) then false else true
set_option maxRecDepth 100000 in
set_option maxHeartbeats 4000000 in
theorem ev_X9_beginsWithR {l : Launch} {b : Nat} {cy : Nat → ClassId} {D : va_G} {d : Nat} {k : Nat} {p : Nat}  {σ : Sg} (hk : Wo k p)  : Es l b cy D (d + 0) yX9_beginsWithR cX9_beginsWithR (Option.some Jvm.ClassFile.FieldType.boolean) 1 [.ref (b + k)] σ (some (.int (bI (rX9_beginsWithR k p σ)))) σ := by
  refine Ev.of (by decide) (Nat.le_of_ble_eq_true rfl) rfl ?_
  refine g_aload_n (pc' := 1) dX9_beginsWithR_0 rfl 0 rfl rfl ?_
  refine g_getR (pc' := 4) (a := p) dX9_beginsWithR_1 rfl (PLk.lf fX9_12) hk.1 rfl ?_
  refine g_getL (pc' := 7) dX9_beginsWithR_4 rfl (PLk.lf fX9_26) hk.2 rfl ?_
  refine g_aload_n (pc' := 8) dX9_beginsWithR_7 rfl 0 rfl rfl ?_
  refine g_getR (pc' := 11) (a := p) dX9_beginsWithR_8 rfl (PLk.lf fX9_12) hk.1 rfl ?_
  refine g_getL (pc' := 14) dX9_beginsWithR_11 rfl (PLk.lf fX9_30) hk.2 rfl ?_
  refine g_lif_lt (pc' := 18) (tgt := 40) dX9_beginsWithR_14 dX9_beginsWithR_15 rfl (by decide) (fun (c1 : (σ.2 p 0 : Int64) < (σ.2 p 2)) => ?_) (fun (c1 : ¬ (σ.2 p 0 : Int64) < (σ.2 p 2)) => ?_)
  · refine g_iconst (pc' := 41) (v := 0) dX9_beginsWithR_40 rfl (by decide) ?_
    exact g_zret dX9_beginsWithR_41 rfl (Or.inl rfl) ⟨rfl, rfl⟩ (by simp only [rX9_beginsWithR, if_pos c1, bI_t, bI_f])
  · refine g_aload_n (pc' := 19) dX9_beginsWithR_18 rfl 0 rfl rfl ?_
    refine g_getR (pc' := 22) (a := p) dX9_beginsWithR_19 rfl (PLk.lf fX9_12) hk.1 rfl ?_
    refine g_getL (pc' := 25) dX9_beginsWithR_22 rfl (PLk.lf fX9_33) hk.2 rfl ?_
    refine g_aload_n (pc' := 26) dX9_beginsWithR_25 rfl 0 rfl rfl ?_
    refine g_getR (pc' := 29) (a := p) dX9_beginsWithR_26 rfl (PLk.lf fX9_12) hk.1 rfl ?_
    refine g_getL (pc' := 32) dX9_beginsWithR_29 rfl (PLk.lf fX9_36) hk.2 rfl ?_
    refine g_lif_lt (pc' := 36) (tgt := 40) dX9_beginsWithR_32 dX9_beginsWithR_33 rfl (by decide) (fun (c2 : (σ.2 p 1 : Int64) < (σ.2 p 3)) => ?_) (fun (c2 : ¬ (σ.2 p 1 : Int64) < (σ.2 p 3)) => ?_)
    · refine g_iconst (pc' := 41) (v := 0) dX9_beginsWithR_40 rfl (by decide) ?_
      exact g_zret dX9_beginsWithR_41 rfl (Or.inl rfl) ⟨rfl, rfl⟩ (by simp only [rX9_beginsWithR, if_neg c1, if_pos c2, bI_t, bI_f])
    · refine g_iconst (pc' := 37) (v := 1) dX9_beginsWithR_36 rfl (by decide) ?_
      refine g_goto (tgt := 41) dX9_beginsWithR_37 (by decide) ?_
      exact g_zret dX9_beginsWithR_41 rfl (Or.inr rfl) ⟨rfl, rfl⟩ (by simp only [rX9_beginsWithR, if_neg c1, if_neg c2, bI_t, bI_f])
def rX9_firstRun (k : Nat) (p : Nat) (x1 : Bool) (σ : Sg) : Int64 := if x1 = true then if (0 : Int64) < (σ.2 p 2) then if (0 : Int64) < (σ.2 p 3) then rJ9_min_f86c9 ((σ.2 p 0) / (σ.2 p 2)) ((σ.2 p 1) / (σ.2 p 3)) σ else (σ.2 p 0) / (σ.2 p 2) else if (0 : Int64) < (σ.2 p 3) then rJ9_min_f86c9 9223372036854775807 ((σ.2 p 1) / (σ.2 p 3)) σ else 9223372036854775807 else if (0 : Int64) < (σ.2 p 0) then if (0 : Int64) < (σ.2 p 1) then rJ9_min_f86c9 ((σ.2 p 2) / (σ.2 p 0)) ((σ.2 p 3) / (σ.2 p 1)) σ else (σ.2 p 2) / (σ.2 p 0) else if (0 : Int64) < (σ.2 p 1) then rJ9_min_f86c9 9223372036854775807 ((σ.2 p 3) / (σ.2 p 1)) σ else 9223372036854775807
set_option maxRecDepth 100000 in
set_option maxHeartbeats 4000000 in
theorem ev_X9_firstRun {l : Launch} {b : Nat} {cy : Nat → ClassId} {D : va_G} {d : Nat} {k : Nat} {p : Nat} {x1 : Bool} {σ : Sg} (hk : Wo k p)  : Es l b cy D (d + 1) yX9_firstRun cX9_firstRun (Option.some Jvm.ClassFile.FieldType.long) 12 [.ref (b + k), .int (bI (x1))] σ (some (.long (rX9_firstRun k p x1 σ))) σ := by
  refine Ev.of (by decide) (Nat.le_of_ble_eq_true rfl) rfl ?_
  refine g_iload_n (pc' := 1) dX9_firstRun_0 rfl 1 rfl rfl ?_
  refine g_ifb_eq (pc' := 4) (tgt := 14) dX9_firstRun_1 rfl (by decide) (fun (c1 : x1 = false) => ?_) (fun (c1 : x1 = true) => ?_)
  · refine g_aload_n (pc' := 15) dX9_firstRun_14 rfl 0 rfl rfl ?_
    refine g_getR (pc' := 18) (a := p) dX9_firstRun_15 rfl (PLk.lf fX9_12) hk.1 rfl ?_
    refine g_getL (pc' := 21) dX9_firstRun_18 rfl (PLk.lf fX9_30) hk.2 rfl ?_
    refine g_lstore_n (pc' := 22) (j := 2) (lv' := [(2, .long (σ.2 p 2)), (0, .ref (b + k)), (1, .int (bI (x1)))]) dX9_firstRun_21 rfl rfl (by decide) rfl ?_
    refine g_iload_n (pc' := 23) dX9_firstRun_22 rfl 2 rfl rfl ?_
    refine g_ifb_eq (pc' := 26) (tgt := 36) dX9_firstRun_23 rfl (by decide) (fun _ => ?_) (fun z => absurd z (bf c1))
    refine g_aload_n (pc' := 37) dX9_firstRun_36 rfl 1 rfl rfl ?_
    refine g_getR (pc' := 40) (a := p) dX9_firstRun_37 rfl (PLk.lf fX9_12) hk.1 rfl ?_
    refine g_getL (pc' := 43) dX9_firstRun_40 rfl (PLk.lf fX9_36) hk.2 rfl ?_
    refine g_lstore (pc' := 45) (j := 4) (lv' := [(4, .long (σ.2 p 3)), (2, .long (σ.2 p 2)), (0, .ref (b + k)), (1, .int (bI (x1)))]) dX9_firstRun_43 rfl (by decide) rfl ?_
    refine g_iload_n (pc' := 46) dX9_firstRun_45 rfl 3 rfl rfl ?_
    refine g_ifb_eq (pc' := 49) (tgt := 59) dX9_firstRun_46 rfl (by decide) (fun _ => ?_) (fun z => absurd z (bf c1))
    refine g_aload_n (pc' := 60) dX9_firstRun_59 rfl 2 rfl rfl ?_
    refine g_getR (pc' := 63) (a := p) dX9_firstRun_60 rfl (PLk.lf fX9_12) hk.1 rfl ?_
    refine g_getL (pc' := 66) dX9_firstRun_63 rfl (PLk.lf fX9_26) hk.2 rfl ?_
    refine g_lstore (pc' := 68) (j := 6) (lv' := [(6, .long (σ.2 p 0)), (4, .long (σ.2 p 3)), (2, .long (σ.2 p 2)), (0, .ref (b + k)), (1, .int (bI (x1)))]) dX9_firstRun_66 rfl (by decide) rfl ?_
    refine g_iload_n (pc' := 69) dX9_firstRun_68 rfl 4 rfl rfl ?_
    refine g_ifb_eq (pc' := 72) (tgt := 82) dX9_firstRun_69 rfl (by decide) (fun _ => ?_) (fun z => absurd z (bf c1))
    refine g_aload_n (pc' := 83) dX9_firstRun_82 rfl 3 rfl rfl ?_
    refine g_getR (pc' := 86) (a := p) dX9_firstRun_83 rfl (PLk.lf fX9_12) hk.1 rfl ?_
    refine g_getL (pc' := 89) dX9_firstRun_86 rfl (PLk.lf fX9_33) hk.2 rfl ?_
    refine g_lstore (pc' := 91) (j := 8) (lv' := [(8, .long (σ.2 p 1)), (6, .long (σ.2 p 0)), (4, .long (σ.2 p 3)), (2, .long (σ.2 p 2)), (0, .ref (b + k)), (1, .int (bI (x1)))]) dX9_firstRun_89 rfl (by decide) rfl ?_
    refine g_lload (pc' := 93) dX9_firstRun_91 rfl 1 rfl ?_
    refine g_lconst (pc' := 94) (v := 0) dX9_firstRun_93 rfl (by decide) ?_
    refine g_lif_le (pc' := 98) (tgt := 105) dX9_firstRun_94 dX9_firstRun_95 rfl (by decide) (fun (c5 : ¬ (0 : Int64) < (σ.2 p 0)) => ?_) (fun (c5 : (0 : Int64) < (σ.2 p 0)) => ?_)
    · refine g_ldc2 (pc' := 108) dX9_firstRun_105 rfl kX9_41 ?_
      refine g_lstore (pc' := 110) (j := 10) (lv' := [(10, .long (9223372036854775807)), (8, .long (σ.2 p 1)), (6, .long (σ.2 p 0)), (4, .long (σ.2 p 3)), (2, .long (σ.2 p 2)), (0, .ref (b + k)), (1, .int (bI (x1)))]) dX9_firstRun_108 rfl (by decide) rfl ?_
      refine g_lload (pc' := 112) dX9_firstRun_110 rfl 1 rfl ?_
      refine g_lconst (pc' := 113) (v := 0) dX9_firstRun_112 rfl (by decide) ?_
      refine g_lif_le (pc' := 117) (tgt := 130) dX9_firstRun_113 dX9_firstRun_114 rfl (by decide) (fun (c6 : ¬ (0 : Int64) < (σ.2 p 1)) => ?_) (fun (c6 : (0 : Int64) < (σ.2 p 1)) => ?_)
      · refine g_lload (pc' := 132) dX9_firstRun_130 rfl 0 rfl ?_
        exact g_lret dX9_firstRun_132 rfl ⟨rfl, rfl⟩ (by simp only [rX9_firstRun, if_neg (bf c1), if_neg c5, if_neg c6, bI_t, bI_f])
      · refine g_lload (pc' := 119) dX9_firstRun_117 rfl 0 rfl ?_
        refine g_lload (pc' := 121) dX9_firstRun_119 rfl 3 rfl ?_
        refine g_lload (pc' := 123) dX9_firstRun_121 rfl 1 rfl ?_
        refine g_ldiv (pc' := 124) dX9_firstRun_123 rfl (lpos_ne c6) ?_
        refine g_callsr (pc' := 127) dX9_firstRun_124 rfl mX9_43 (ev_J9_min_f86c9 (x1 := 9223372036854775807) (x2 := (σ.2 p 3) / (σ.2 p 1)) (σ := σ)  (d := d)) (rm_ok (by omega) (by decide)) ⟨rfl, rfl⟩ ⟨Nat.zero_le _, Nat.zero_le _⟩ rfl rfl (Nat.le_of_ble_eq_true rfl) ?_
        refine g_goto (tgt := 132) dX9_firstRun_127 (by decide) ?_
        exact g_lret dX9_firstRun_132 rfl ⟨rfl, rfl⟩ (by simp only [rX9_firstRun, if_neg (bf c1), if_neg c5, if_pos c6, bI_t, bI_f])
    · refine g_lload_n (pc' := 99) dX9_firstRun_98 rfl 3 rfl rfl ?_
      refine g_lload (pc' := 101) dX9_firstRun_99 rfl 1 rfl ?_
      refine g_ldiv (pc' := 102) dX9_firstRun_101 rfl (lpos_ne c5) ?_
      refine g_goto (tgt := 108) dX9_firstRun_102 (by decide) ?_
      refine g_lstore (pc' := 110) (j := 10) (lv' := [(10, .long ((σ.2 p 2) / (σ.2 p 0))), (8, .long (σ.2 p 1)), (6, .long (σ.2 p 0)), (4, .long (σ.2 p 3)), (2, .long (σ.2 p 2)), (0, .ref (b + k)), (1, .int (bI (x1)))]) dX9_firstRun_108 rfl (by decide) rfl ?_
      refine g_lload (pc' := 112) dX9_firstRun_110 rfl 1 rfl ?_
      refine g_lconst (pc' := 113) (v := 0) dX9_firstRun_112 rfl (by decide) ?_
      refine g_lif_le (pc' := 117) (tgt := 130) dX9_firstRun_113 dX9_firstRun_114 rfl (by decide) (fun (c7 : ¬ (0 : Int64) < (σ.2 p 1)) => ?_) (fun (c7 : (0 : Int64) < (σ.2 p 1)) => ?_)
      · refine g_lload (pc' := 132) dX9_firstRun_130 rfl 0 rfl ?_
        exact g_lret dX9_firstRun_132 rfl ⟨rfl, rfl⟩ (by simp only [rX9_firstRun, if_neg (bf c1), if_pos c5, if_neg c7, bI_t, bI_f])
      · refine g_lload (pc' := 119) dX9_firstRun_117 rfl 0 rfl ?_
        refine g_lload (pc' := 121) dX9_firstRun_119 rfl 3 rfl ?_
        refine g_lload (pc' := 123) dX9_firstRun_121 rfl 1 rfl ?_
        refine g_ldiv (pc' := 124) dX9_firstRun_123 rfl (lpos_ne c7) ?_
        refine g_callsr (pc' := 127) dX9_firstRun_124 rfl mX9_43 (ev_J9_min_f86c9 (x1 := (σ.2 p 2) / (σ.2 p 0)) (x2 := (σ.2 p 3) / (σ.2 p 1)) (σ := σ)  (d := d)) (rm_ok (by omega) (by decide)) ⟨rfl, rfl⟩ ⟨Nat.zero_le _, Nat.zero_le _⟩ rfl rfl (Nat.le_of_ble_eq_true rfl) ?_
        refine g_goto (tgt := 132) dX9_firstRun_127 (by decide) ?_
        exact g_lret dX9_firstRun_132 rfl ⟨rfl, rfl⟩ (by simp only [rX9_firstRun, if_neg (bf c1), if_pos c5, if_pos c7, bI_t, bI_f])
  · refine g_aload_n (pc' := 5) dX9_firstRun_4 rfl 0 rfl rfl ?_
    refine g_getR (pc' := 8) (a := p) dX9_firstRun_5 rfl (PLk.lf fX9_12) hk.1 rfl ?_
    refine g_getL (pc' := 11) dX9_firstRun_8 rfl (PLk.lf fX9_26) hk.2 rfl ?_
    refine g_goto (tgt := 21) dX9_firstRun_11 (by decide) ?_
    refine g_lstore_n (pc' := 22) (j := 2) (lv' := [(2, .long (σ.2 p 0)), (0, .ref (b + k)), (1, .int (bI (x1)))]) dX9_firstRun_21 rfl rfl (by decide) rfl ?_
    refine g_iload_n (pc' := 23) dX9_firstRun_22 rfl 2 rfl rfl ?_
    refine g_ifb_eq (pc' := 26) (tgt := 36) dX9_firstRun_23 rfl (by decide) (fun z => absurd c1 (bf z)) (fun _ => ?_)
    refine g_aload_n (pc' := 27) dX9_firstRun_26 rfl 1 rfl rfl ?_
    refine g_getR (pc' := 30) (a := p) dX9_firstRun_27 rfl (PLk.lf fX9_12) hk.1 rfl ?_
    refine g_getL (pc' := 33) dX9_firstRun_30 rfl (PLk.lf fX9_33) hk.2 rfl ?_
    refine g_goto (tgt := 43) dX9_firstRun_33 (by decide) ?_
    refine g_lstore (pc' := 45) (j := 4) (lv' := [(4, .long (σ.2 p 1)), (2, .long (σ.2 p 0)), (0, .ref (b + k)), (1, .int (bI (x1)))]) dX9_firstRun_43 rfl (by decide) rfl ?_
    refine g_iload_n (pc' := 46) dX9_firstRun_45 rfl 3 rfl rfl ?_
    refine g_ifb_eq (pc' := 49) (tgt := 59) dX9_firstRun_46 rfl (by decide) (fun z => absurd c1 (bf z)) (fun _ => ?_)
    refine g_aload_n (pc' := 50) dX9_firstRun_49 rfl 2 rfl rfl ?_
    refine g_getR (pc' := 53) (a := p) dX9_firstRun_50 rfl (PLk.lf fX9_12) hk.1 rfl ?_
    refine g_getL (pc' := 56) dX9_firstRun_53 rfl (PLk.lf fX9_30) hk.2 rfl ?_
    refine g_goto (tgt := 66) dX9_firstRun_56 (by decide) ?_
    refine g_lstore (pc' := 68) (j := 6) (lv' := [(6, .long (σ.2 p 2)), (4, .long (σ.2 p 1)), (2, .long (σ.2 p 0)), (0, .ref (b + k)), (1, .int (bI (x1)))]) dX9_firstRun_66 rfl (by decide) rfl ?_
    refine g_iload_n (pc' := 69) dX9_firstRun_68 rfl 4 rfl rfl ?_
    refine g_ifb_eq (pc' := 72) (tgt := 82) dX9_firstRun_69 rfl (by decide) (fun z => absurd c1 (bf z)) (fun _ => ?_)
    refine g_aload_n (pc' := 73) dX9_firstRun_72 rfl 3 rfl rfl ?_
    refine g_getR (pc' := 76) (a := p) dX9_firstRun_73 rfl (PLk.lf fX9_12) hk.1 rfl ?_
    refine g_getL (pc' := 79) dX9_firstRun_76 rfl (PLk.lf fX9_36) hk.2 rfl ?_
    refine g_goto (tgt := 89) dX9_firstRun_79 (by decide) ?_
    refine g_lstore (pc' := 91) (j := 8) (lv' := [(8, .long (σ.2 p 3)), (6, .long (σ.2 p 2)), (4, .long (σ.2 p 1)), (2, .long (σ.2 p 0)), (0, .ref (b + k)), (1, .int (bI (x1)))]) dX9_firstRun_89 rfl (by decide) rfl ?_
    refine g_lload (pc' := 93) dX9_firstRun_91 rfl 1 rfl ?_
    refine g_lconst (pc' := 94) (v := 0) dX9_firstRun_93 rfl (by decide) ?_
    refine g_lif_le (pc' := 98) (tgt := 105) dX9_firstRun_94 dX9_firstRun_95 rfl (by decide) (fun (c11 : ¬ (0 : Int64) < (σ.2 p 2)) => ?_) (fun (c11 : (0 : Int64) < (σ.2 p 2)) => ?_)
    · refine g_ldc2 (pc' := 108) dX9_firstRun_105 rfl kX9_41 ?_
      refine g_lstore (pc' := 110) (j := 10) (lv' := [(10, .long (9223372036854775807)), (8, .long (σ.2 p 3)), (6, .long (σ.2 p 2)), (4, .long (σ.2 p 1)), (2, .long (σ.2 p 0)), (0, .ref (b + k)), (1, .int (bI (x1)))]) dX9_firstRun_108 rfl (by decide) rfl ?_
      refine g_lload (pc' := 112) dX9_firstRun_110 rfl 1 rfl ?_
      refine g_lconst (pc' := 113) (v := 0) dX9_firstRun_112 rfl (by decide) ?_
      refine g_lif_le (pc' := 117) (tgt := 130) dX9_firstRun_113 dX9_firstRun_114 rfl (by decide) (fun (c12 : ¬ (0 : Int64) < (σ.2 p 3)) => ?_) (fun (c12 : (0 : Int64) < (σ.2 p 3)) => ?_)
      · refine g_lload (pc' := 132) dX9_firstRun_130 rfl 0 rfl ?_
        exact g_lret dX9_firstRun_132 rfl ⟨rfl, rfl⟩ (by simp only [rX9_firstRun, if_pos c1, if_neg c11, if_neg c12, bI_t, bI_f])
      · refine g_lload (pc' := 119) dX9_firstRun_117 rfl 0 rfl ?_
        refine g_lload (pc' := 121) dX9_firstRun_119 rfl 3 rfl ?_
        refine g_lload (pc' := 123) dX9_firstRun_121 rfl 1 rfl ?_
        refine g_ldiv (pc' := 124) dX9_firstRun_123 rfl (lpos_ne c12) ?_
        refine g_callsr (pc' := 127) dX9_firstRun_124 rfl mX9_43 (ev_J9_min_f86c9 (x1 := 9223372036854775807) (x2 := (σ.2 p 1) / (σ.2 p 3)) (σ := σ)  (d := d)) (rm_ok (by omega) (by decide)) ⟨rfl, rfl⟩ ⟨Nat.zero_le _, Nat.zero_le _⟩ rfl rfl (Nat.le_of_ble_eq_true rfl) ?_
        refine g_goto (tgt := 132) dX9_firstRun_127 (by decide) ?_
        exact g_lret dX9_firstRun_132 rfl ⟨rfl, rfl⟩ (by simp only [rX9_firstRun, if_pos c1, if_neg c11, if_pos c12, bI_t, bI_f])
    · refine g_lload_n (pc' := 99) dX9_firstRun_98 rfl 3 rfl rfl ?_
      refine g_lload (pc' := 101) dX9_firstRun_99 rfl 1 rfl ?_
      refine g_ldiv (pc' := 102) dX9_firstRun_101 rfl (lpos_ne c11) ?_
      refine g_goto (tgt := 108) dX9_firstRun_102 (by decide) ?_
      refine g_lstore (pc' := 110) (j := 10) (lv' := [(10, .long ((σ.2 p 0) / (σ.2 p 2))), (8, .long (σ.2 p 3)), (6, .long (σ.2 p 2)), (4, .long (σ.2 p 1)), (2, .long (σ.2 p 0)), (0, .ref (b + k)), (1, .int (bI (x1)))]) dX9_firstRun_108 rfl (by decide) rfl ?_
      refine g_lload (pc' := 112) dX9_firstRun_110 rfl 1 rfl ?_
      refine g_lconst (pc' := 113) (v := 0) dX9_firstRun_112 rfl (by decide) ?_
      refine g_lif_le (pc' := 117) (tgt := 130) dX9_firstRun_113 dX9_firstRun_114 rfl (by decide) (fun (c13 : ¬ (0 : Int64) < (σ.2 p 3)) => ?_) (fun (c13 : (0 : Int64) < (σ.2 p 3)) => ?_)
      · refine g_lload (pc' := 132) dX9_firstRun_130 rfl 0 rfl ?_
        exact g_lret dX9_firstRun_132 rfl ⟨rfl, rfl⟩ (by simp only [rX9_firstRun, if_pos c1, if_pos c11, if_neg c13, bI_t, bI_f])
      · refine g_lload (pc' := 119) dX9_firstRun_117 rfl 0 rfl ?_
        refine g_lload (pc' := 121) dX9_firstRun_119 rfl 3 rfl ?_
        refine g_lload (pc' := 123) dX9_firstRun_121 rfl 1 rfl ?_
        refine g_ldiv (pc' := 124) dX9_firstRun_123 rfl (lpos_ne c13) ?_
        refine g_callsr (pc' := 127) dX9_firstRun_124 rfl mX9_43 (ev_J9_min_f86c9 (x1 := (σ.2 p 0) / (σ.2 p 2)) (x2 := (σ.2 p 1) / (σ.2 p 3)) (σ := σ)  (d := d)) (rm_ok (by omega) (by decide)) ⟨rfl, rfl⟩ ⟨Nat.zero_le _, Nat.zero_le _⟩ rfl rfl (Nat.le_of_ble_eq_true rfl) ?_
        refine g_goto (tgt := 132) dX9_firstRun_127 (by decide) ?_
        exact g_lret dX9_firstRun_132 rfl ⟨rfl, rfl⟩ (by simp only [rX9_firstRun, if_pos c1, if_pos c11, if_pos c13, bI_t, bI_f])
def rX9_dropFirstRun (k : Nat) (p : Nat)  (σ : Sg) : Int64 := if (rX9_beginsWithR k p σ) = true then rX9_firstRun k p (rX9_beginsWithR k p σ) σ else rX9_firstRun k p (rX9_beginsWithR k p σ) σ
def sX9_dropFirstRun (k : Nat) (p : Nat)  (σ : Sg) : Sg := if (rX9_beginsWithR k p σ) = true then (σ.1, u2 (u2 σ.2 p 0 ((σ.2 p 0) - ((rX9_firstRun k p (rX9_beginsWithR k p σ) σ) * (σ.2 p 2)))) p 1 (((u2 σ.2 p 0 ((σ.2 p 0) - ((rX9_firstRun k p (rX9_beginsWithR k p σ) σ) * (σ.2 p 2)))) p 1) - ((rX9_firstRun k p (rX9_beginsWithR k p σ) σ) * ((u2 σ.2 p 0 ((σ.2 p 0) - ((rX9_firstRun k p (rX9_beginsWithR k p σ) σ) * (σ.2 p 2)))) p 3)))) else (σ.1, u2 (u2 σ.2 p 2 ((σ.2 p 2) - ((rX9_firstRun k p (rX9_beginsWithR k p σ) σ) * (σ.2 p 0)))) p 3 (((u2 σ.2 p 2 ((σ.2 p 2) - ((rX9_firstRun k p (rX9_beginsWithR k p σ) σ) * (σ.2 p 0)))) p 3) - ((rX9_firstRun k p (rX9_beginsWithR k p σ) σ) * ((u2 σ.2 p 2 ((σ.2 p 2) - ((rX9_firstRun k p (rX9_beginsWithR k p σ) σ) * (σ.2 p 0)))) p 1))))
set_option maxRecDepth 100000 in
set_option maxHeartbeats 4000000 in
theorem ev_X9_dropFirstRun {l : Launch} {b : Nat} {cy : Nat → ClassId} {D : va_G} {d : Nat} {k : Nat} {p : Nat}  {σ : Sg} (hk : Wo k p)  : Es l b cy D (d + 2) yX9_dropFirstRun cX9_dropFirstRun (Option.some Jvm.ClassFile.FieldType.long) 4 [.ref (b + k)] σ (some (.long (rX9_dropFirstRun k p σ))) (sX9_dropFirstRun k p σ) := by
  refine Ev.of (by decide) (Nat.le_of_ble_eq_true rfl) rfl ?_
  refine g_aload_n (pc' := 1) dX9_dropFirstRun_0 rfl 0 rfl rfl ?_
  refine g_callr (pc' := 4) dX9_dropFirstRun_1 rfl mX9_49 (ev_X9_beginsWithR (k := k) (p := p) (σ := σ) hk (d := d + 1)) hk.1 rfl (rm_ok (by omega) (by decide)) ⟨rfl, rfl⟩ ⟨Nat.zero_le _, Nat.zero_le _⟩ rfl rfl (Nat.le_of_ble_eq_true rfl) ?_
  refine g_istore_n (pc' := 5) (j := 1) (lv' := [(1, .int (bI (rX9_beginsWithR k p σ))), (0, .ref (b + k))]) dX9_dropFirstRun_4 rfl rfl (by decide) rfl ?_
  refine g_aload_n (pc' := 6) dX9_dropFirstRun_5 rfl 1 rfl rfl ?_
  refine g_iload_n (pc' := 7) dX9_dropFirstRun_6 rfl 0 rfl rfl ?_
  refine g_callr (pc' := 10) dX9_dropFirstRun_7 rfl mX9_52 (ev_X9_firstRun (k := k) (p := p) (x1 := rX9_beginsWithR k p σ) (σ := σ) hk (d := d)) hk.1 rfl (rm_ok (by omega) (by decide)) ⟨rfl, rfl⟩ ⟨Nat.zero_le _, Nat.zero_le _⟩ rfl rfl (Nat.le_of_ble_eq_true rfl) ?_
  refine g_lstore_n (pc' := 11) (j := 2) (lv' := [(2, .long (rX9_firstRun k p (rX9_beginsWithR k p σ) σ)), (1, .int (bI (rX9_beginsWithR k p σ))), (0, .ref (b + k))]) dX9_dropFirstRun_10 rfl rfl (by decide) rfl ?_
  refine g_iload_n (pc' := 12) dX9_dropFirstRun_11 rfl 1 rfl rfl ?_
  refine g_ifb_eq (pc' := 15) (tgt := 60) dX9_dropFirstRun_12 rfl (by decide) (fun (c1 : (rX9_beginsWithR k p σ) = false) => ?_) (fun (c1 : (rX9_beginsWithR k p σ) = true) => ?_)
  · refine g_aload_n (pc' := 61) dX9_dropFirstRun_60 rfl 2 rfl rfl ?_
    refine g_getR (pc' := 64) (a := p) dX9_dropFirstRun_61 rfl (PLk.lf fX9_12) hk.1 rfl ?_
    refine g_dup (pc' := 65) dX9_dropFirstRun_64 rfl rfl ?_
    refine g_getL (pc' := 68) dX9_dropFirstRun_65 rfl (PLk.lf fX9_30) hk.2 rfl ?_
    refine g_lload_n (pc' := 69) dX9_dropFirstRun_68 rfl 0 rfl rfl ?_
    refine g_aload_n (pc' := 70) dX9_dropFirstRun_69 rfl 2 rfl rfl ?_
    refine g_getR (pc' := 73) (a := p) dX9_dropFirstRun_70 rfl (PLk.lf fX9_12) hk.1 rfl ?_
    refine g_getL (pc' := 76) dX9_dropFirstRun_73 rfl (PLk.lf fX9_26) hk.2 rfl ?_
    refine g_lmul (pc' := 77) dX9_dropFirstRun_76 rfl ?_
    refine g_lsub (pc' := 78) dX9_dropFirstRun_77 rfl ?_
    refine g_putL (pc' := 81) dX9_dropFirstRun_78 rfl fX9_30 hk.2 rfl ?_
    refine g_aload_n (pc' := 82) dX9_dropFirstRun_81 rfl 2 rfl rfl ?_
    refine g_getR (pc' := 85) (a := p) dX9_dropFirstRun_82 rfl (PLk.lf fX9_12) hk.1 rfl ?_
    refine g_dup (pc' := 86) dX9_dropFirstRun_85 rfl rfl ?_
    refine g_getL (pc' := 89) dX9_dropFirstRun_86 rfl (PLk.lf fX9_36) hk.2 rfl ?_
    refine g_lload_n (pc' := 90) dX9_dropFirstRun_89 rfl 0 rfl rfl ?_
    refine g_aload_n (pc' := 91) dX9_dropFirstRun_90 rfl 2 rfl rfl ?_
    refine g_getR (pc' := 94) (a := p) dX9_dropFirstRun_91 rfl (PLk.lf fX9_12) hk.1 rfl ?_
    refine g_getL (pc' := 97) dX9_dropFirstRun_94 rfl (PLk.lf fX9_33) hk.2 rfl ?_
    refine g_lmul (pc' := 98) dX9_dropFirstRun_97 rfl ?_
    refine g_lsub (pc' := 99) dX9_dropFirstRun_98 rfl ?_
    refine g_putL (pc' := 102) dX9_dropFirstRun_99 rfl fX9_36 hk.2 rfl ?_
    refine g_lload_n (pc' := 103) dX9_dropFirstRun_102 rfl 0 rfl rfl ?_
    exact g_lret dX9_dropFirstRun_103 rfl ⟨rfl, rfl⟩ (by simp only [rX9_dropFirstRun, sX9_dropFirstRun, if_neg (bf c1), bI_t, bI_f])
  · refine g_aload_n (pc' := 16) dX9_dropFirstRun_15 rfl 2 rfl rfl ?_
    refine g_getR (pc' := 19) (a := p) dX9_dropFirstRun_16 rfl (PLk.lf fX9_12) hk.1 rfl ?_
    refine g_dup (pc' := 20) dX9_dropFirstRun_19 rfl rfl ?_
    refine g_getL (pc' := 23) dX9_dropFirstRun_20 rfl (PLk.lf fX9_26) hk.2 rfl ?_
    refine g_lload_n (pc' := 24) dX9_dropFirstRun_23 rfl 0 rfl rfl ?_
    refine g_aload_n (pc' := 25) dX9_dropFirstRun_24 rfl 2 rfl rfl ?_
    refine g_getR (pc' := 28) (a := p) dX9_dropFirstRun_25 rfl (PLk.lf fX9_12) hk.1 rfl ?_
    refine g_getL (pc' := 31) dX9_dropFirstRun_28 rfl (PLk.lf fX9_30) hk.2 rfl ?_
    refine g_lmul (pc' := 32) dX9_dropFirstRun_31 rfl ?_
    refine g_lsub (pc' := 33) dX9_dropFirstRun_32 rfl ?_
    refine g_putL (pc' := 36) dX9_dropFirstRun_33 rfl fX9_26 hk.2 rfl ?_
    refine g_aload_n (pc' := 37) dX9_dropFirstRun_36 rfl 2 rfl rfl ?_
    refine g_getR (pc' := 40) (a := p) dX9_dropFirstRun_37 rfl (PLk.lf fX9_12) hk.1 rfl ?_
    refine g_dup (pc' := 41) dX9_dropFirstRun_40 rfl rfl ?_
    refine g_getL (pc' := 44) dX9_dropFirstRun_41 rfl (PLk.lf fX9_33) hk.2 rfl ?_
    refine g_lload_n (pc' := 45) dX9_dropFirstRun_44 rfl 0 rfl rfl ?_
    refine g_aload_n (pc' := 46) dX9_dropFirstRun_45 rfl 2 rfl rfl ?_
    refine g_getR (pc' := 49) (a := p) dX9_dropFirstRun_46 rfl (PLk.lf fX9_12) hk.1 rfl ?_
    refine g_getL (pc' := 52) dX9_dropFirstRun_49 rfl (PLk.lf fX9_36) hk.2 rfl ?_
    refine g_lmul (pc' := 53) dX9_dropFirstRun_52 rfl ?_
    refine g_lsub (pc' := 54) dX9_dropFirstRun_53 rfl ?_
    refine g_putL (pc' := 57) dX9_dropFirstRun_54 rfl fX9_33 hk.2 rfl ?_
    refine g_goto (tgt := 102) dX9_dropFirstRun_57 (by decide) ?_
    refine g_lload_n (pc' := 103) dX9_dropFirstRun_102 rfl 0 rfl rfl ?_
    exact g_lret dX9_dropFirstRun_103 rfl ⟨rfl, rfl⟩ (by simp only [rX9_dropFirstRun, sX9_dropFirstRun, if_pos c1, bI_t, bI_f])
def rX9_turnFirstRun (k : Nat) (p : Nat)  (σ : Sg) : Int64 := if (rX9_beginsWithR k p σ) = true then rX9_firstRun k p (rX9_beginsWithR k p σ) σ else rX9_firstRun k p (rX9_beginsWithR k p σ) σ
def sX9_turnFirstRun (k : Nat) (p : Nat)  (σ : Sg) : Sg := if (rX9_beginsWithR k p σ) = true then sX6_carryByR p (-(rX9_firstRun k p (rX9_beginsWithR k p σ) σ)) σ else sX6_carryByL p (-(rX9_firstRun k p (rX9_beginsWithR k p σ) σ)) σ
set_option maxRecDepth 100000 in
set_option maxHeartbeats 4000000 in
theorem ev_X9_turnFirstRun {l : Launch} {b : Nat} {cy : Nat → ClassId} {D : va_G} {d : Nat} {k : Nat} {p : Nat}  {σ : Sg} (hk : Wo k p)  : Es l b cy D (d + 2) yX9_turnFirstRun cX9_turnFirstRun (Option.some Jvm.ClassFile.FieldType.long) 4 [.ref (b + k)] σ (some (.long (rX9_turnFirstRun k p σ))) (sX9_turnFirstRun k p σ) := by
  refine Ev.of (by decide) (Nat.le_of_ble_eq_true rfl) rfl ?_
  refine g_aload_n (pc' := 1) dX9_turnFirstRun_0 rfl 0 rfl rfl ?_
  refine g_callr (pc' := 4) dX9_turnFirstRun_1 rfl mX9_49 (ev_X9_beginsWithR (k := k) (p := p) (σ := σ) hk (d := d + 1)) hk.1 rfl (rm_ok (by omega) (by decide)) ⟨rfl, rfl⟩ ⟨Nat.zero_le _, Nat.zero_le _⟩ rfl rfl (Nat.le_of_ble_eq_true rfl) ?_
  refine g_istore_n (pc' := 5) (j := 1) (lv' := [(1, .int (bI (rX9_beginsWithR k p σ))), (0, .ref (b + k))]) dX9_turnFirstRun_4 rfl rfl (by decide) rfl ?_
  refine g_aload_n (pc' := 6) dX9_turnFirstRun_5 rfl 1 rfl rfl ?_
  refine g_iload_n (pc' := 7) dX9_turnFirstRun_6 rfl 0 rfl rfl ?_
  refine g_callr (pc' := 10) dX9_turnFirstRun_7 rfl mX9_52 (ev_X9_firstRun (k := k) (p := p) (x1 := rX9_beginsWithR k p σ) (σ := σ) hk (d := d)) hk.1 rfl (rm_ok (by omega) (by decide)) ⟨rfl, rfl⟩ ⟨Nat.zero_le _, Nat.zero_le _⟩ rfl rfl (Nat.le_of_ble_eq_true rfl) ?_
  refine g_lstore_n (pc' := 11) (j := 2) (lv' := [(2, .long (rX9_firstRun k p (rX9_beginsWithR k p σ) σ)), (1, .int (bI (rX9_beginsWithR k p σ))), (0, .ref (b + k))]) dX9_turnFirstRun_10 rfl rfl (by decide) rfl ?_
  refine g_iload_n (pc' := 12) dX9_turnFirstRun_11 rfl 1 rfl rfl ?_
  refine g_ifb_eq (pc' := 15) (tgt := 27) dX9_turnFirstRun_12 rfl (by decide) (fun (c1 : (rX9_beginsWithR k p σ) = false) => ?_) (fun (c1 : (rX9_beginsWithR k p σ) = true) => ?_)
  · refine g_aload_n (pc' := 28) dX9_turnFirstRun_27 rfl 2 rfl rfl ?_
    refine g_getR (pc' := 31) (a := p) dX9_turnFirstRun_28 rfl (PLk.lf fX9_12) hk.1 rfl ?_
    refine g_lload_n (pc' := 32) dX9_turnFirstRun_31 rfl 0 rfl rfl ?_
    refine g_lneg (pc' := 33) dX9_turnFirstRun_32 rfl ?_
    refine g_callv (pc' := 36) dX9_turnFirstRun_33 rfl mX9_60 (ev_X6_carryByL (k := p) (x1 := -(rX9_firstRun k p (rX9_beginsWithR k p σ) σ)) (σ := σ) hk.2 (d := d + 1)) hk.2 rfl (rm_ok (by omega) (by decide)) ⟨rfl, rfl⟩ ⟨Nat.zero_le _, Nat.zero_le _⟩ rfl rfl (Nat.le_of_ble_eq_true rfl) ?_
    refine g_lload_n (pc' := 37) dX9_turnFirstRun_36 rfl 0 rfl rfl ?_
    exact g_lret dX9_turnFirstRun_37 rfl ⟨rfl, rfl⟩ (by simp only [rX9_turnFirstRun, sX9_turnFirstRun, if_neg (bf c1), bI_t, bI_f])
  · refine g_aload_n (pc' := 16) dX9_turnFirstRun_15 rfl 2 rfl rfl ?_
    refine g_getR (pc' := 19) (a := p) dX9_turnFirstRun_16 rfl (PLk.lf fX9_12) hk.1 rfl ?_
    refine g_lload_n (pc' := 20) dX9_turnFirstRun_19 rfl 0 rfl rfl ?_
    refine g_lneg (pc' := 21) dX9_turnFirstRun_20 rfl ?_
    refine g_callv (pc' := 24) dX9_turnFirstRun_21 rfl mX9_56 (ev_X6_carryByR (k := p) (x1 := -(rX9_firstRun k p (rX9_beginsWithR k p σ) σ)) (σ := σ) hk.2 (d := d + 1)) hk.2 rfl (rm_ok (by omega) (by decide)) ⟨rfl, rfl⟩ ⟨Nat.zero_le _, Nat.zero_le _⟩ rfl rfl (Nat.le_of_ble_eq_true rfl) ?_
    refine g_goto (tgt := 36) dX9_turnFirstRun_24 (by decide) ?_
    refine g_lload_n (pc' := 37) dX9_turnFirstRun_36 rfl 0 rfl rfl ?_
    exact g_lret dX9_turnFirstRun_37 rfl ⟨rfl, rfl⟩ (by simp only [rX9_turnFirstRun, sX9_turnFirstRun, if_pos c1, bI_t, bI_f])
def rX9_stepsUpTo  (x1 : Int64) (x2 : Int64) (x3 : Int64) (σ : Sg) : Int64 := if (0 : Int64) < x3 then if (x2 : Int64) < 0 then -1 else if (x2 - x2 / x3 * x3 : Int64) = 0 then if (x1 : Int64) < (x2 / x3) then -1 else x2 / x3 else -1 else -1
set_option maxRecDepth 100000 in
set_option maxHeartbeats 4000000 in
theorem ev_X9_stepsUpTo {l : Launch} {b : Nat} {cy : Nat → ClassId} {D : va_G} {d : Nat}  {x1 : Int64} {x2 : Int64} {x3 : Int64} {σ : Sg}   : Es l b cy D (d + 0) yX9_stepsUpTo cX9_stepsUpTo (Option.some Jvm.ClassFile.FieldType.long) 6 [.long (x1), .long (x2), .long (x3)] σ (some (.long (rX9_stepsUpTo x1 x2 x3 σ))) σ := by
  refine Ev.of (by decide) (Nat.le_of_ble_eq_true rfl) rfl ?_
  refine g_lload (pc' := 2) dX9_stepsUpTo_0 rfl 2 rfl ?_
  refine g_lconst (pc' := 3) (v := 0) dX9_stepsUpTo_2 rfl (by decide) ?_
  refine g_lif_le (pc' := 7) (tgt := 31) dX9_stepsUpTo_3 dX9_stepsUpTo_4 rfl (by decide) (fun (c1 : ¬ (0 : Int64) < x3) => ?_) (fun (c1 : (0 : Int64) < x3) => ?_)
  · refine g_ldc2 (pc' := 34) dX9_stepsUpTo_31 rfl kX9_67 ?_
    exact g_lret dX9_stepsUpTo_34 rfl ⟨rfl, rfl⟩ (by simp only [rX9_stepsUpTo, if_neg c1, bI_t, bI_f])
  · refine g_lload_n (pc' := 8) dX9_stepsUpTo_7 rfl 1 rfl rfl ?_
    refine g_lconst (pc' := 9) (v := 0) dX9_stepsUpTo_8 rfl (by decide) ?_
    refine g_lif_lt (pc' := 13) (tgt := 31) dX9_stepsUpTo_9 dX9_stepsUpTo_10 rfl (by decide) (fun (c2 : (x2 : Int64) < 0) => ?_) (fun (c2 : ¬ (x2 : Int64) < 0) => ?_)
    · refine g_ldc2 (pc' := 34) dX9_stepsUpTo_31 rfl kX9_67 ?_
      exact g_lret dX9_stepsUpTo_34 rfl ⟨rfl, rfl⟩ (by simp only [rX9_stepsUpTo, if_pos c1, if_pos c2, bI_t, bI_f])
    · refine g_lload_n (pc' := 14) dX9_stepsUpTo_13 rfl 1 rfl rfl ?_
      refine g_lload (pc' := 16) dX9_stepsUpTo_14 rfl 2 rfl ?_
      refine g_lrem (pc' := 17) dX9_stepsUpTo_16 rfl (lpos_ne c1) ?_
      refine g_lconst (pc' := 18) (v := 0) dX9_stepsUpTo_17 rfl (by decide) ?_
      refine g_lif_ne (pc' := 22) (tgt := 31) dX9_stepsUpTo_18 dX9_stepsUpTo_19 rfl (by decide) (fun (c3 : ¬ (x2 - x2 / x3 * x3 : Int64) = 0) => ?_) (fun (c3 : (x2 - x2 / x3 * x3 : Int64) = 0) => ?_)
      · refine g_ldc2 (pc' := 34) dX9_stepsUpTo_31 rfl kX9_67 ?_
        exact g_lret dX9_stepsUpTo_34 rfl ⟨rfl, rfl⟩ (by simp only [rX9_stepsUpTo, if_pos c1, if_neg c2, if_neg c3, bI_t, bI_f])
      · refine g_lload_n (pc' := 23) dX9_stepsUpTo_22 rfl 1 rfl rfl ?_
        refine g_lload (pc' := 25) dX9_stepsUpTo_23 rfl 2 rfl ?_
        refine g_ldiv (pc' := 26) dX9_stepsUpTo_25 rfl (lpos_ne c1) ?_
        refine g_lload_n (pc' := 27) dX9_stepsUpTo_26 rfl 0 rfl rfl ?_
        refine g_lif_le (pc' := 31) (tgt := 35) dX9_stepsUpTo_27 dX9_stepsUpTo_28 rfl (by decide) (fun (c4 : ¬ (x1 : Int64) < (x2 / x3)) => ?_) (fun (c4 : (x1 : Int64) < (x2 / x3)) => ?_)
        · refine g_lload_n (pc' := 36) dX9_stepsUpTo_35 rfl 1 rfl rfl ?_
          refine g_lload (pc' := 38) dX9_stepsUpTo_36 rfl 2 rfl ?_
          refine g_ldiv (pc' := 39) dX9_stepsUpTo_38 rfl (lpos_ne c1) ?_
          exact g_lret dX9_stepsUpTo_39 rfl ⟨rfl, rfl⟩ (by simp only [rX9_stepsUpTo, if_pos c1, if_neg c2, if_pos c3, if_neg c4, bI_t, bI_f])
        · refine g_ldc2 (pc' := 34) dX9_stepsUpTo_31 rfl kX9_67 ?_
          exact g_lret dX9_stepsUpTo_34 rfl ⟨rfl, rfl⟩ (by simp only [rX9_stepsUpTo, if_pos c1, if_neg c2, if_pos c3, if_pos c4, bI_t, bI_f])
def rX9_turnsInFirstRun (k : Nat) (p : Nat) (i : Nat)  (σ : Sg) : Int64 := if (rX6_trace i σ : Int64) = (rX6_trace p σ) then if (rX9_beginsWithR k p σ) = true then if (σ.2 i 2 : Int64) = (σ.2 p 2) then rX9_stepsUpTo (rX9_firstRun k p true σ) ((σ.2 i 3) - (σ.2 p 3)) (σ.2 p 2) σ else -1 else if (σ.2 i 1 : Int64) = (σ.2 p 1) then rX9_stepsUpTo (rX9_firstRun k p false σ) ((σ.2 i 0) - (σ.2 p 0)) (σ.2 p 1) σ else -1 else -1
set_option maxRecDepth 100000 in
set_option maxHeartbeats 4000000 in
theorem ev_X9_turnsInFirstRun {l : Launch} {b : Nat} {cy : Nat → ClassId} {D : va_G} {d : Nat} {k : Nat} {p : Nat} {i : Nat}  {σ : Sg} (hk : Wo k p) (hi : Sq i)  : Es l b cy D (d + 2) yX9_turnsInFirstRun cX9_turnsInFirstRun (Option.some Jvm.ClassFile.FieldType.long) 2 [.ref (b + k), .ref (b + i)] σ (some (.long (rX9_turnsInFirstRun k p i σ))) σ := by
  refine Ev.of (by decide) (Nat.le_of_ble_eq_true rfl) rfl ?_
  refine g_aload_n (pc' := 1) dX9_turnsInFirstRun_0 rfl 1 rfl rfl ?_
  refine g_callr (pc' := 4) dX9_turnsInFirstRun_1 rfl mX9_63 (ev_X6_trace (k := i) (σ := σ) hi (d := d + 1)) hi rfl (rm_ok (by omega) (by decide)) ⟨rfl, rfl⟩ ⟨Nat.zero_le _, Nat.zero_le _⟩ rfl rfl (Nat.le_of_ble_eq_true rfl) ?_
  refine g_aload_n (pc' := 5) dX9_turnsInFirstRun_4 rfl 0 rfl rfl ?_
  refine g_getR (pc' := 8) (a := p) dX9_turnsInFirstRun_5 rfl (PLk.lf fX9_12) hk.1 rfl ?_
  refine g_callr (pc' := 11) dX9_turnsInFirstRun_8 rfl mX9_63 (ev_X6_trace (k := p) (σ := σ) hk.2 (d := d + 1)) hk.2 rfl (rm_ok (by omega) (by decide)) ⟨rfl, rfl⟩ ⟨Nat.zero_le _, Nat.zero_le _⟩ rfl rfl (Nat.le_of_ble_eq_true rfl) ?_
  refine g_lif_eq (pc' := 15) (tgt := 19) dX9_turnsInFirstRun_11 dX9_turnsInFirstRun_12 rfl (by decide) (fun (c1 : (rX6_trace i σ : Int64) = (rX6_trace p σ)) => ?_) (fun (c1 : ¬ (rX6_trace i σ : Int64) = (rX6_trace p σ)) => ?_)
  · refine g_aload_n (pc' := 20) dX9_turnsInFirstRun_19 rfl 0 rfl rfl ?_
    refine g_callr (pc' := 23) dX9_turnsInFirstRun_20 rfl mX9_49 (ev_X9_beginsWithR (k := k) (p := p) (σ := σ) hk (d := d + 1)) hk.1 rfl (rm_ok (by omega) (by decide)) ⟨rfl, rfl⟩ ⟨Nat.zero_le _, Nat.zero_le _⟩ rfl rfl (Nat.le_of_ble_eq_true rfl) ?_
    refine g_ifb_eq (pc' := 26) (tgt := 75) dX9_turnsInFirstRun_23 rfl (by decide) (fun (c2 : (rX9_beginsWithR k p σ) = false) => ?_) (fun (c2 : (rX9_beginsWithR k p σ) = true) => ?_)
    · refine g_aload_n (pc' := 76) dX9_turnsInFirstRun_75 rfl 1 rfl rfl ?_
      refine g_getL (pc' := 79) dX9_turnsInFirstRun_76 rfl (PLk.lf fX9_33) hi rfl ?_
      refine g_aload_n (pc' := 80) dX9_turnsInFirstRun_79 rfl 0 rfl rfl ?_
      refine g_getR (pc' := 83) (a := p) dX9_turnsInFirstRun_80 rfl (PLk.lf fX9_12) hk.1 rfl ?_
      refine g_getL (pc' := 86) dX9_turnsInFirstRun_83 rfl (PLk.lf fX9_33) hk.2 rfl ?_
      refine g_lif_ne (pc' := 90) (tgt := 120) dX9_turnsInFirstRun_86 dX9_turnsInFirstRun_87 rfl (by decide) (fun (c3 : ¬ (σ.2 i 1 : Int64) = (σ.2 p 1)) => ?_) (fun (c3 : (σ.2 i 1 : Int64) = (σ.2 p 1)) => ?_)
      · refine g_ldc2 (pc' := 123) dX9_turnsInFirstRun_120 rfl kX9_67 ?_
        exact g_lret dX9_turnsInFirstRun_123 rfl ⟨rfl, rfl⟩ (by simp only [rX9_turnsInFirstRun, if_pos c1, if_neg (bf c2), if_neg c3, bI_t, bI_f])
      · refine g_aload_n (pc' := 91) dX9_turnsInFirstRun_90 rfl 0 rfl rfl ?_
        refine g_iconst (pc' := 92) (v := 0) dX9_turnsInFirstRun_91 rfl (by decide) ?_
        refine g_callr (pc' := 95) dX9_turnsInFirstRun_92 rfl mX9_52 (ev_X9_firstRun (k := k) (p := p) (x1 := false) (σ := σ) hk (d := d)) hk.1 rfl (rm_ok (by omega) (by decide)) ⟨rfl, rfl⟩ ⟨Nat.zero_le _, Nat.zero_le _⟩ rfl rfl (Nat.le_of_ble_eq_true rfl) ?_
        refine g_aload_n (pc' := 96) dX9_turnsInFirstRun_95 rfl 1 rfl rfl ?_
        refine g_getL (pc' := 99) dX9_turnsInFirstRun_96 rfl (PLk.lf fX9_26) hi rfl ?_
        refine g_aload_n (pc' := 100) dX9_turnsInFirstRun_99 rfl 0 rfl rfl ?_
        refine g_getR (pc' := 103) (a := p) dX9_turnsInFirstRun_100 rfl (PLk.lf fX9_12) hk.1 rfl ?_
        refine g_getL (pc' := 106) dX9_turnsInFirstRun_103 rfl (PLk.lf fX9_26) hk.2 rfl ?_
        refine g_lsub (pc' := 107) dX9_turnsInFirstRun_106 rfl ?_
        refine g_aload_n (pc' := 108) dX9_turnsInFirstRun_107 rfl 0 rfl rfl ?_
        refine g_getR (pc' := 111) (a := p) dX9_turnsInFirstRun_108 rfl (PLk.lf fX9_12) hk.1 rfl ?_
        refine g_getL (pc' := 114) dX9_turnsInFirstRun_111 rfl (PLk.lf fX9_33) hk.2 rfl ?_
        refine g_callsr (pc' := 117) dX9_turnsInFirstRun_114 rfl mX9_69 (ev_X9_stepsUpTo (x1 := rX9_firstRun k p false σ) (x2 := (σ.2 i 0) - (σ.2 p 0)) (x3 := σ.2 p 1) (σ := σ)  (d := d + 1)) (rm_ok (by omega) (by decide)) ⟨rfl, rfl⟩ ⟨Nat.zero_le _, Nat.zero_le _⟩ rfl rfl (Nat.le_of_ble_eq_true rfl) ?_
        refine g_goto (tgt := 123) dX9_turnsInFirstRun_117 (by decide) ?_
        exact g_lret dX9_turnsInFirstRun_123 rfl ⟨rfl, rfl⟩ (by simp only [rX9_turnsInFirstRun, if_pos c1, if_neg (bf c2), if_pos c3, bI_t, bI_f])
    · refine g_aload_n (pc' := 27) dX9_turnsInFirstRun_26 rfl 1 rfl rfl ?_
      refine g_getL (pc' := 30) dX9_turnsInFirstRun_27 rfl (PLk.lf fX9_30) hi rfl ?_
      refine g_aload_n (pc' := 31) dX9_turnsInFirstRun_30 rfl 0 rfl rfl ?_
      refine g_getR (pc' := 34) (a := p) dX9_turnsInFirstRun_31 rfl (PLk.lf fX9_12) hk.1 rfl ?_
      refine g_getL (pc' := 37) dX9_turnsInFirstRun_34 rfl (PLk.lf fX9_30) hk.2 rfl ?_
      refine g_lif_ne (pc' := 41) (tgt := 71) dX9_turnsInFirstRun_37 dX9_turnsInFirstRun_38 rfl (by decide) (fun (c4 : ¬ (σ.2 i 2 : Int64) = (σ.2 p 2)) => ?_) (fun (c4 : (σ.2 i 2 : Int64) = (σ.2 p 2)) => ?_)
      · refine g_ldc2 (pc' := 74) dX9_turnsInFirstRun_71 rfl kX9_67 ?_
        exact g_lret dX9_turnsInFirstRun_74 rfl ⟨rfl, rfl⟩ (by simp only [rX9_turnsInFirstRun, if_pos c1, if_pos c2, if_neg c4, bI_t, bI_f])
      · refine g_aload_n (pc' := 42) dX9_turnsInFirstRun_41 rfl 0 rfl rfl ?_
        refine g_iconst (pc' := 43) (v := 1) dX9_turnsInFirstRun_42 rfl (by decide) ?_
        refine g_callr (pc' := 46) dX9_turnsInFirstRun_43 rfl mX9_52 (ev_X9_firstRun (k := k) (p := p) (x1 := true) (σ := σ) hk (d := d)) hk.1 rfl (rm_ok (by omega) (by decide)) ⟨rfl, rfl⟩ ⟨Nat.zero_le _, Nat.zero_le _⟩ rfl rfl (Nat.le_of_ble_eq_true rfl) ?_
        refine g_aload_n (pc' := 47) dX9_turnsInFirstRun_46 rfl 1 rfl rfl ?_
        refine g_getL (pc' := 50) dX9_turnsInFirstRun_47 rfl (PLk.lf fX9_36) hi rfl ?_
        refine g_aload_n (pc' := 51) dX9_turnsInFirstRun_50 rfl 0 rfl rfl ?_
        refine g_getR (pc' := 54) (a := p) dX9_turnsInFirstRun_51 rfl (PLk.lf fX9_12) hk.1 rfl ?_
        refine g_getL (pc' := 57) dX9_turnsInFirstRun_54 rfl (PLk.lf fX9_36) hk.2 rfl ?_
        refine g_lsub (pc' := 58) dX9_turnsInFirstRun_57 rfl ?_
        refine g_aload_n (pc' := 59) dX9_turnsInFirstRun_58 rfl 0 rfl rfl ?_
        refine g_getR (pc' := 62) (a := p) dX9_turnsInFirstRun_59 rfl (PLk.lf fX9_12) hk.1 rfl ?_
        refine g_getL (pc' := 65) dX9_turnsInFirstRun_62 rfl (PLk.lf fX9_30) hk.2 rfl ?_
        refine g_callsr (pc' := 68) dX9_turnsInFirstRun_65 rfl mX9_69 (ev_X9_stepsUpTo (x1 := rX9_firstRun k p true σ) (x2 := (σ.2 i 3) - (σ.2 p 3)) (x3 := σ.2 p 2) (σ := σ)  (d := d + 1)) (rm_ok (by omega) (by decide)) ⟨rfl, rfl⟩ ⟨Nat.zero_le _, Nat.zero_le _⟩ rfl rfl (Nat.le_of_ble_eq_true rfl) ?_
        refine g_goto (tgt := 74) dX9_turnsInFirstRun_68 (by decide) ?_
        exact g_lret dX9_turnsInFirstRun_74 rfl ⟨rfl, rfl⟩ (by simp only [rX9_turnsInFirstRun, if_pos c1, if_pos c2, if_pos c4, bI_t, bI_f])
  · refine g_ldc2 (pc' := 18) dX9_turnsInFirstRun_15 rfl kX9_67 ?_
    exact g_lret dX9_turnsInFirstRun_18 rfl ⟨rfl, rfl⟩ (by simp only [rX9_turnsInFirstRun, if_neg c1, bI_t, bI_f])
