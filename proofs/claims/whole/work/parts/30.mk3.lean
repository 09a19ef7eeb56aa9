def sz (σ : Sg) (k : Nat) : Nat := (σ.1 k 1).toNatClampNeg
def SzOk (σ : Sg) (k : Nat) : Prop := σ.1 k 1 = nI (sz σ k) ∧ sz σ k ≤ 12
def fwF (σ : Sg) (bl : Nat) : Nat → Nat → Int32
  | 0, _ => -1
  | m + 1, i => if rX5_has 1 2 (rX0_one bl (nI i) σ) σ = true then (if rX5_has 1 2 (rX0_other bl (nI i) σ) σ = true then (if bI (rX2_areAlike (rX0_one bl (nI i) σ).toNatClampNeg (rX0_other bl (nI i) σ).toNatClampNeg (rX0_one bl (nI i) σ) (rX0_other bl (nI i) σ) σ) = bI (rX0_saidAlike bl (nI i) σ) then fwF σ bl m (i + 1) else nI i) else nI i) else nI i
set_option maxRecDepth 100000 in
set_option maxHeartbeats 4000000 in
theorem lp_fw {l : Launch} {b : Nat} {cy : Nat → ClassId} {D : va_G} {d : Nat}   {n bl : Nat} {σ : Sg}  (hz : σ.1 1 1 = nI n) (hn : n ≤ 12) (hw : WAll σ) (hb : σ.1 47 3 = nI bl) (hbl : bl ≤ 20) : ∀ (m : Nat) (i : Nat), i + m = bl → Gs l b cy D (d + 4) yX10_firstWrong cX10_firstWrong (Option.some Jvm.ClassFile.FieldType.int) 5 (some (.int (fwF σ bl m i))) σ 2 [(0, .ref (b + 0)), (1, .int (nI i))] [] σ := by
  intro m
  induction m with
  | zero =>
    intro i hi
    refine g_iload_n (pc' := 3) dX10_firstWrong_2 rfl 1 rfl rfl ?_
    refine g_aload_n (pc' := 4) dX10_firstWrong_3 rfl 0 rfl rfl ?_
    refine g_getR (pc' := 7) (a := 47) dX10_firstWrong_4 rfl (PLk.lf fX10_33) o0 rfl ?_
    refine g_callr (pc' := 10) dX10_firstWrong_7 rfl mX10_123 (ev_X0_length  (σ := σ)  (d := d + 3)) o47 rfl (rm_ok (by omega) (by decide)) ⟨rfl, rfl⟩ ⟨Nat.zero_le _, Nat.zero_le _⟩ rfl rfl (Nat.le_of_ble_eq_true rfl) ?_
    refine g_icmp_ge (pc' := 13) (tgt := 93) dX10_firstWrong_10 rfl (by decide) (fun (c1 : (rX0_length σ : Int32) ≤ (nI i)) => ?_) (fun (c1 : ¬ (rX0_length σ : Int32) ≤ (nI i)) => ?_)
    · refine g_iconst (pc' := 94) (v := -1) dX10_firstWrong_93 rfl (by decide) ?_
      exact g_iret dX10_firstWrong_94 rfl ⟨rfl, rfl⟩ rfl
    · exact absurd (show rX0_length σ ≤ nI i from by unfold rX0_length; rw [hb]; exact (nI_leI (by omega) (by omega)).mpr (by omega)) c1
  | succ m ih =>
    intro i hi
    refine g_iload_n (pc' := 3) dX10_firstWrong_2 rfl 1 rfl rfl ?_
    refine g_aload_n (pc' := 4) dX10_firstWrong_3 rfl 0 rfl rfl ?_
    refine g_getR (pc' := 7) (a := 47) dX10_firstWrong_4 rfl (PLk.lf fX10_33) o0 rfl ?_
    refine g_callr (pc' := 10) dX10_firstWrong_7 rfl mX10_123 (ev_X0_length  (σ := σ)  (d := d + 3)) o47 rfl (rm_ok (by omega) (by decide)) ⟨rfl, rfl⟩ ⟨Nat.zero_le _, Nat.zero_le _⟩ rfl rfl (Nat.le_of_ble_eq_true rfl) ?_
    refine g_icmp_ge (pc' := 13) (tgt := 93) dX10_firstWrong_10 rfl (by decide) (fun (c1 : (rX0_length σ : Int32) ≤ (nI i)) => ?_) (fun (c1 : ¬ (rX0_length σ : Int32) ≤ (nI i)) => ?_)
    · exact absurd (nle (a := bl) (c := i) c1 hb rfl (by omega) (by omega)) (by omega)
    · refine g_aload_n (pc' := 14) dX10_firstWrong_13 rfl 0 rfl rfl ?_
      refine g_getR (pc' := 17) (a := 47) dX10_firstWrong_14 rfl (PLk.lf fX10_33) o0 rfl ?_
      refine g_iload_n (pc' := 18) dX10_firstWrong_17 rfl 1 rfl rfl ?_
      refine g_callr (pc' := 21) dX10_firstWrong_18 rfl mX10_128 (ev_X0_one (n := bl) (x1 := nI i) (σ := σ) hb hbl (d := d + 3)) o47 rfl (rm_ok (by omega) (by decide)) ⟨rfl, rfl⟩ ⟨Nat.zero_le _, Nat.zero_le _⟩ rfl rfl (Nat.le_of_ble_eq_true rfl) ?_
      refine g_istore_n (pc' := 22) (j := 2) (lv' := [(2, .int (rX0_one bl (nI i) σ)), (0, .ref (b + 0)), (1, .int (nI i))]) dX10_firstWrong_21 rfl rfl (by decide) rfl ?_
      refine g_aload_n (pc' := 23) dX10_firstWrong_22 rfl 1 rfl rfl ?_
      refine g_getR (pc' := 26) (a := 47) dX10_firstWrong_23 rfl (PLk.lf fX10_33) o0 rfl ?_
      refine g_iload_n (pc' := 27) dX10_firstWrong_26 rfl 2 rfl rfl ?_
      refine g_callr (pc' := 30) dX10_firstWrong_27 rfl mX10_132 (ev_X0_other (n := bl) (x1 := nI i) (σ := σ) hb hbl (d := d + 3)) o47 rfl (rm_ok (by omega) (by decide)) ⟨rfl, rfl⟩ ⟨Nat.zero_le _, Nat.zero_le _⟩ rfl rfl (Nat.le_of_ble_eq_true rfl) ?_
      refine g_istore_n (pc' := 31) (j := 3) (lv' := [(3, .int (rX0_other bl (nI i) σ)), (2, .int (rX0_one bl (nI i) σ)), (0, .ref (b + 0)), (1, .int (nI i))]) dX10_firstWrong_30 rfl rfl (by decide) rfl ?_
      refine g_aload_n (pc' := 32) dX10_firstWrong_31 rfl 2 rfl rfl ?_
      refine g_getR (pc' := 35) (a := 1) dX10_firstWrong_32 rfl (PLk.lf fX10_10) o0 rfl ?_
      refine g_iload_n (pc' := 36) dX10_firstWrong_35 rfl 1 rfl rfl ?_
      refine g_callr (pc' := 39) dX10_firstWrong_36 rfl mX10_135 (ev_X5_has (k := 1) (c := 2) (x1 := rX0_one bl (nI i) σ) (σ := σ) sf1 (d := d + 3)) o1 rfl (rm_ok (by omega) (by decide)) ⟨rfl, rfl⟩ ⟨Nat.zero_le _, Nat.zero_le _⟩ rfl rfl (Nat.le_of_ble_eq_true rfl) ?_
      refine g_ifb_eq (pc' := 42) (tgt := 57) dX10_firstWrong_39 rfl (by decide) (fun (c2 : (rX5_has 1 2 (rX0_one bl (nI i) σ) σ) = false) => ?_) (fun (c2 : (rX5_has 1 2 (rX0_one bl (nI i) σ) σ) = true) => ?_)
      · refine g_iconst (pc' := 58) (v := 0) dX10_firstWrong_57 rfl (by decide) ?_
        refine g_istore (pc' := 60) (j := 4) (lv' := [(4, .int (0)), (3, .int (rX0_other bl (nI i) σ)), (2, .int (rX0_one bl (nI i) σ)), (0, .ref (b + 0)), (1, .int (nI i))]) dX10_firstWrong_58 rfl (by decide) rfl ?_
        refine g_iload (pc' := 62) dX10_firstWrong_60 rfl 0 rfl ?_
        refine g_if_eq (pc' := 65) (tgt := 85) dX10_firstWrong_62 rfl (by decide) (fun _ => ?_) (fun z => absurd z (by decide))
        refine g_iload_n (pc' := 86) dX10_firstWrong_85 rfl 4 rfl rfl ?_
        exact g_iret dX10_firstWrong_86 rfl ⟨rfl, rfl⟩ (by rw [fwF, if_neg (bf c2)])
      · refine g_aload_n (pc' := 43) dX10_firstWrong_42 rfl 2 rfl rfl ?_
        refine g_getR (pc' := 46) (a := 1) dX10_firstWrong_43 rfl (PLk.lf fX10_10) o0 rfl ?_
        refine g_iload_n (pc' := 47) dX10_firstWrong_46 rfl 0 rfl rfl ?_
        refine g_callr (pc' := 50) dX10_firstWrong_47 rfl mX10_135 (ev_X5_has (k := 1) (c := 2) (x1 := rX0_other bl (nI i) σ) (σ := σ) sf1 (d := d + 3)) o1 rfl (rm_ok (by omega) (by decide)) ⟨rfl, rfl⟩ ⟨Nat.zero_le _, Nat.zero_le _⟩ rfl rfl (Nat.le_of_ble_eq_true rfl) ?_
        refine g_ifb_eq (pc' := 53) (tgt := 57) dX10_firstWrong_50 rfl (by decide) (fun (c4 : (rX5_has 1 2 (rX0_other bl (nI i) σ) σ) = false) => ?_) (fun (c4 : (rX5_has 1 2 (rX0_other bl (nI i) σ) σ) = true) => ?_)
        · refine g_iconst (pc' := 58) (v := 0) dX10_firstWrong_57 rfl (by decide) ?_
          refine g_istore (pc' := 60) (j := 4) (lv' := [(4, .int (0)), (3, .int (rX0_other bl (nI i) σ)), (2, .int (rX0_one bl (nI i) σ)), (0, .ref (b + 0)), (1, .int (nI i))]) dX10_firstWrong_58 rfl (by decide) rfl ?_
          refine g_iload (pc' := 62) dX10_firstWrong_60 rfl 0 rfl ?_
          refine g_if_eq (pc' := 65) (tgt := 85) dX10_firstWrong_62 rfl (by decide) (fun _ => ?_) (fun z => absurd z (by decide))
          refine g_iload_n (pc' := 86) dX10_firstWrong_85 rfl 4 rfl rfl ?_
          exact g_iret dX10_firstWrong_86 rfl ⟨rfl, rfl⟩ (by rw [fwF, if_pos c2, if_neg (bf c4)])
        · refine g_iconst (pc' := 54) (v := 1) dX10_firstWrong_53 rfl (by decide) ?_
          refine g_goto (tgt := 58) dX10_firstWrong_54 (by decide) ?_
          refine g_istore (pc' := 60) (j := 4) (lv' := [(4, .int (1)), (3, .int (rX0_other bl (nI i) σ)), (2, .int (rX0_one bl (nI i) σ)), (0, .ref (b + 0)), (1, .int (nI i))]) dX10_firstWrong_58 rfl (by decide) rfl ?_
          refine g_iload (pc' := 62) dX10_firstWrong_60 rfl 0 rfl ?_
          refine g_if_eq (pc' := 65) (tgt := 85) dX10_firstWrong_62 rfl (by decide) (fun z => absurd z (by decide)) (fun _ => ?_)
          obtain ⟨q1, h1⟩ := has_t hz hn c2
          obtain ⟨q2, h2⟩ := has_t hz hn c4
          refine g_aload_n (pc' := 66) dX10_firstWrong_65 rfl 3 rfl rfl ?_
          refine g_getR (pc' := 69) (a := 51) dX10_firstWrong_66 rfl (PLk.lf fX10_40) o0 rfl ?_
          refine g_iload_n (pc' := 70) dX10_firstWrong_69 rfl 2 rfl rfl ?_
          refine g_iload_n (pc' := 71) dX10_firstWrong_70 rfl 1 rfl rfl ?_
          refine g_callr (pc' := 74) dX10_firstWrong_71 rfl mX10_139 (ev_X2_areAlike (s := (rX0_one bl (nI i) σ).toNatClampNeg) (u := (rX0_other bl (nI i) σ).toNatClampNeg) (x1 := rX0_one bl (nI i) σ) (x2 := rX0_other bl (nI i) σ) (σ := σ) q1 (by omega) q2 (by omega) (hw _ (by omega)) (hw _ (by omega)) (d := d)) o51 rfl (rm_ok (by omega) (by decide)) ⟨rfl, rfl⟩ ⟨Nat.zero_le _, Nat.zero_le _⟩ rfl rfl (Nat.le_of_ble_eq_true rfl) ?_
          refine g_aload_n (pc' := 75) dX10_firstWrong_74 rfl 3 rfl rfl ?_
          refine g_getR (pc' := 78) (a := 47) dX10_firstWrong_75 rfl (PLk.lf fX10_33) o0 rfl ?_
          refine g_iload_n (pc' := 79) dX10_firstWrong_78 rfl 4 rfl rfl ?_
          refine g_callr (pc' := 82) dX10_firstWrong_79 rfl mX10_143 (ev_X0_saidAlike (n := bl) (x1 := nI i) (σ := σ) hb hbl (d := d + 3)) o47 rfl (rm_ok (by omega) (by decide)) ⟨rfl, rfl⟩ ⟨Nat.zero_le _, Nat.zero_le _⟩ rfl rfl (Nat.le_of_ble_eq_true rfl) ?_
          refine g_icmp_eq (pc' := 85) (tgt := 87) dX10_firstWrong_82 rfl (by decide) (fun (c7 : (bI (rX2_areAlike ((rX0_one bl (nI i) σ).toNatClampNeg) ((rX0_other bl (nI i) σ).toNatClampNeg) (rX0_one bl (nI i) σ) (rX0_other bl (nI i) σ) σ) : Int32) = (bI (rX0_saidAlike bl (nI i) σ))) => ?_) (fun (c7 : ¬ (bI (rX2_areAlike ((rX0_one bl (nI i) σ).toNatClampNeg) ((rX0_other bl (nI i) σ).toNatClampNeg) (rX0_one bl (nI i) σ) (rX0_other bl (nI i) σ) σ) : Int32) = (bI (rX0_saidAlike bl (nI i) σ))) => ?_)
          · refine g_iinc (pc' := 90) (v := nI (i + 1)) (lv' := [(1, .int (nI (i + 1))), (4, .int (1)), (3, .int (rX0_other bl (nI i) σ)), (2, .int (rX0_one bl (nI i) σ)), (0, .ref (b + 0))]) dX10_firstWrong_87 rfl 4 rfl (nI_1 i) (by decide) rfl ?_
            refine g_goto (tgt := 2) dX10_firstWrong_90 (by decide) ?_
            rw [show fwF σ bl (m + 1) i = fwF σ bl m (i + 1) by rw [fwF, if_pos c2, if_pos c4, if_pos c7]]
            refine g_sub [4, 0] rfl ?_
            exact ih (i + 1) (by omega)
          · refine g_iload_n (pc' := 86) dX10_firstWrong_85 rfl 4 rfl rfl ?_
            exact g_iret dX10_firstWrong_86 rfl ⟨rfl, rfl⟩ (by rw [fwF, if_pos c2, if_pos c4, if_neg c7])
set_option maxRecDepth 100000 in
set_option maxHeartbeats 4000000 in
theorem ev_X10_firstWrong {l : Launch} {b : Nat} {cy : Nat → ClassId} {D : va_G} {d : Nat}   {n : Nat} {bl : Nat} {σ : Sg}  (hz : σ.1 1 1 = nI n) (hn : n ≤ 12) (hw : WAll σ) (hb : σ.1 47 3 = nI bl) (hbl : bl ≤ 20) : Es l b cy D (d + 4) yX10_firstWrong cX10_firstWrong (Option.some Jvm.ClassFile.FieldType.int) 5 [.ref (b + 0)] σ (some (.int (fwF σ bl bl 0))) σ := by
  refine Ev.of (by decide) (Nat.le_of_ble_eq_true rfl) rfl ?_
  refine g_iconst (pc' := 1) (v := 0) dX10_firstWrong_0 rfl (by decide) ?_
  refine g_istore_n (pc' := 2) (j := 1) (lv' := [(1, .int (0)), (0, .ref (b + 0))]) dX10_firstWrong_1 rfl rfl (by decide) rfl ?_
  refine g_sub [1, 0] rfl ?_
  exact lp_fw hz hn hw hb hbl bl 0 (by omega)
def rX10_told (n : Nat) (bl : Nat) (x1 : Int32) (σ : Sg) : Int32 := if (x1 : Int32) = 0 then rX5_size 1 2 σ else if (x1 : Int32) = 1 then rX7_length σ else if (x1 : Int32) = 2 then cfaF (laR n σ) n n 0 0 else if (x1 : Int32) = 3 then gfaF (laR n σ) n n 0 0 else if (x1 : Int32) = 4 then (ctwF n 0 0 (laR n σ)).1 else if (x1 : Int32) = 5 then rX0_length σ else if (x1 : Int32) = 6 then fwF (laR n σ) bl bl 0 else if (x1 : Int32) = 7 then rX4_length σ else -1000000002
def sX10_told (n : Nat) (bl : Nat) (x1 : Int32) (σ : Sg) : Sg := if (x1 : Int32) = 0 then σ else if (x1 : Int32) = 1 then σ else if (x1 : Int32) = 2 then laR n σ else if (x1 : Int32) = 3 then laR n σ else if (x1 : Int32) = 4 then (ctwF n 0 0 (laR n σ)).2 else if (x1 : Int32) = 5 then σ else if (x1 : Int32) = 6 then laR n σ else if (x1 : Int32) = 7 then σ else σ
set_option maxRecDepth 100000 in
set_option maxHeartbeats 4000000 in
theorem ev_X10_told {l : Launch} {b : Nat} {cy : Nat → ClassId} {D : va_G} {d : Nat} {n : Nat} {bl : Nat} {x1 : Int32} {σ : Sg}  (hz : σ.1 1 1 = nI n) (hn : n ≤ 12) (hw : WAll σ) (h5 : WOk σ 55) (hb : σ.1 47 3 = nI bl) (hbl : bl ≤ 20) : Es l b cy D (d + 7) yX10_told cX10_told (Option.some Jvm.ClassFile.FieldType.int) 2 [.ref (b + 0), .int (x1)] σ (some (.int (rX10_told n bl x1 σ))) (sX10_told n bl x1 σ) := by
  refine Ev.of (by decide) (Nat.le_of_ble_eq_true rfl) rfl ?_
  refine g_iload_n (pc' := 1) dX10_told_0 rfl 1 rfl rfl ?_
  by_cases c1 : (x1 : Int32) = 0
  · refine g_tabIn (tgt := 48) 0 dX10_told_1 c1 (by decide) (by decide) rfl (by decide) ?_
    refine g_aload_n (pc' := 49) dX10_told_48 rfl 0 rfl rfl ?_
    refine g_getR (pc' := 52) (a := 1) dX10_told_49 rfl (PLk.lf fX10_10) o0 rfl ?_
    refine g_callr (pc' := 55) dX10_told_52 rfl mX10_107 (ev_X5_size (k := 1) (c := 2) (σ := σ) sf1 (d := d + 6)) o1 rfl (rm_ok (by omega) (by decide)) ⟨rfl, rfl⟩ ⟨Nat.zero_le _, Nat.zero_le _⟩ rfl rfl (Nat.le_of_ble_eq_true rfl) ?_
    exact g_iret dX10_told_55 rfl ⟨rfl, rfl⟩ (by simp only [rX10_told, sX10_told, if_pos c1, bI_t, bI_f])
  by_cases c2 : (x1 : Int32) = 1
  · refine g_tabIn (tgt := 56) 1 dX10_told_1 c2 (by decide) (by decide) rfl (by decide) ?_
    refine g_aload_n (pc' := 57) dX10_told_56 rfl 0 rfl rfl ?_
    refine g_getR (pc' := 60) (a := 45) dX10_told_57 rfl (PLk.lf fX10_26) o0 rfl ?_
    refine g_callr (pc' := 63) dX10_told_60 rfl mX10_78 (ev_X7_length  (σ := σ)  (d := d + 6)) o45 rfl (rm_ok (by omega) (by decide)) ⟨rfl, rfl⟩ ⟨Nat.zero_le _, Nat.zero_le _⟩ rfl rfl (Nat.le_of_ble_eq_true rfl) ?_
    exact g_iret dX10_told_63 rfl ⟨rfl, rfl⟩ (by simp only [rX10_told, sX10_told, if_neg c1, if_pos c2, bI_t, bI_f])
  by_cases c3 : (x1 : Int32) = 2
  · refine g_tabIn (tgt := 64) 2 dX10_told_1 c3 (by decide) (by decide) rfl (by decide) ?_
    refine g_aload_n (pc' := 65) dX10_told_64 rfl 0 rfl rfl ?_
    refine g_getR (pc' := 68) (a := 51) dX10_told_65 rfl (PLk.lf fX10_40) o0 rfl ?_
    refine g_aload_n (pc' := 69) dX10_told_68 rfl 0 rfl rfl ?_
    refine g_getR (pc' := 72) (a := 1) dX10_told_69 rfl (PLk.lf fX10_10) o0 rfl ?_
    refine g_callv (pc' := 75) dX10_told_72 rfl mX10_110 (ev_X2_lookAround (n := n) (σ := σ) hz hn (d := d + 1)) o51 rfl (rm_ok (by omega) (by decide)) ⟨rfl, rfl⟩ ⟨Nat.zero_le _, Nat.zero_le _⟩ rfl rfl (Nat.le_of_ble_eq_true rfl) ?_
    refine g_aload_n (pc' := 76) dX10_told_75 rfl 0 rfl rfl ?_
    refine g_getR (pc' := 79) (a := 51) dX10_told_76 rfl (PLk.lf fX10_40) o0 rfl ?_
    refine g_callr (pc' := 82) dX10_told_79 rfl mX10_114 (ev_X2_countFamilies (n := n) (σ := laR n σ) (laR_z hz) hn (laR_w hw) (d := d + 1)) o51 rfl (rm_ok (by omega) (by decide)) ⟨rfl, rfl⟩ ⟨Nat.zero_le _, Nat.zero_le _⟩ rfl rfl (Nat.le_of_ble_eq_true rfl) ?_
    exact g_iret dX10_told_82 rfl ⟨rfl, rfl⟩ (by simp only [rX10_told, sX10_told, if_neg c1, if_neg c2, if_pos c3, bI_t, bI_f])
  by_cases c4 : (x1 : Int32) = 3
  · refine g_tabIn (tgt := 83) 3 dX10_told_1 c4 (by decide) (by decide) rfl (by decide) ?_
    refine g_aload_n (pc' := 84) dX10_told_83 rfl 0 rfl rfl ?_
    refine g_getR (pc' := 87) (a := 51) dX10_told_84 rfl (PLk.lf fX10_40) o0 rfl ?_
    refine g_aload_n (pc' := 88) dX10_told_87 rfl 0 rfl rfl ?_
    refine g_getR (pc' := 91) (a := 1) dX10_told_88 rfl (PLk.lf fX10_10) o0 rfl ?_
    refine g_callv (pc' := 94) dX10_told_91 rfl mX10_110 (ev_X2_lookAround (n := n) (σ := σ) hz hn (d := d + 1)) o51 rfl (rm_ok (by omega) (by decide)) ⟨rfl, rfl⟩ ⟨Nat.zero_le _, Nat.zero_le _⟩ rfl rfl (Nat.le_of_ble_eq_true rfl) ?_
    refine g_aload_n (pc' := 95) dX10_told_94 rfl 0 rfl rfl ?_
    refine g_getR (pc' := 98) (a := 51) dX10_told_95 rfl (PLk.lf fX10_40) o0 rfl ?_
    refine g_callr (pc' := 101) dX10_told_98 rfl mX10_117 (ev_X2_greatestFamily (n := n) (σ := laR n σ) (laR_z hz) hn (laR_w hw) (d := d + 1)) o51 rfl (rm_ok (by omega) (by decide)) ⟨rfl, rfl⟩ ⟨Nat.zero_le _, Nat.zero_le _⟩ rfl rfl (Nat.le_of_ble_eq_true rfl) ?_
    exact g_iret dX10_told_101 rfl ⟨rfl, rfl⟩ (by simp only [rX10_told, sX10_told, if_neg c1, if_neg c2, if_neg c3, if_pos c4, bI_t, bI_f])
  by_cases c5 : (x1 : Int32) = 4
  · refine g_tabIn (tgt := 102) 4 dX10_told_1 c5 (by decide) (by decide) rfl (by decide) ?_
    refine g_aload_n (pc' := 103) dX10_told_102 rfl 0 rfl rfl ?_
    refine g_getR (pc' := 106) (a := 51) dX10_told_103 rfl (PLk.lf fX10_40) o0 rfl ?_
    refine g_aload_n (pc' := 107) dX10_told_106 rfl 0 rfl rfl ?_
    refine g_getR (pc' := 110) (a := 1) dX10_told_107 rfl (PLk.lf fX10_10) o0 rfl ?_
    refine g_callv (pc' := 113) dX10_told_110 rfl mX10_110 (ev_X2_lookAround (n := n) (σ := σ) hz hn (d := d + 1)) o51 rfl (rm_ok (by omega) (by decide)) ⟨rfl, rfl⟩ ⟨Nat.zero_le _, Nat.zero_le _⟩ rfl rfl (Nat.le_of_ble_eq_true rfl) ?_
    refine g_aload_n (pc' := 114) dX10_told_113 rfl 0 rfl rfl ?_
    refine g_getR (pc' := 117) (a := 51) dX10_told_114 rfl (PLk.lf fX10_40) o0 rfl ?_
    refine g_callr (pc' := 120) dX10_told_117 rfl mX10_120 (ev_X2_countTwins (n := n) (σ := laR n σ) (laR_z hz) hn (laR_w hw) (laR_x h5) (d := d)) o51 rfl (rm_ok (by omega) (by decide)) ⟨rfl, rfl⟩ ⟨Nat.zero_le _, Nat.zero_le _⟩ rfl rfl (Nat.le_of_ble_eq_true rfl) ?_
    exact g_iret dX10_told_120 rfl ⟨rfl, rfl⟩ (by simp only [rX10_told, sX10_told, if_neg c1, if_neg c2, if_neg c3, if_neg c4, if_pos c5, bI_t, bI_f])
  by_cases c6 : (x1 : Int32) = 5
  · refine g_tabIn (tgt := 121) 5 dX10_told_1 c6 (by decide) (by decide) rfl (by decide) ?_
    refine g_aload_n (pc' := 122) dX10_told_121 rfl 0 rfl rfl ?_
    refine g_getR (pc' := 125) (a := 47) dX10_told_122 rfl (PLk.lf fX10_33) o0 rfl ?_
    refine g_callr (pc' := 128) dX10_told_125 rfl mX10_123 (ev_X0_length  (σ := σ)  (d := d + 6)) o47 rfl (rm_ok (by omega) (by decide)) ⟨rfl, rfl⟩ ⟨Nat.zero_le _, Nat.zero_le _⟩ rfl rfl (Nat.le_of_ble_eq_true rfl) ?_
    exact g_iret dX10_told_128 rfl ⟨rfl, rfl⟩ (by simp only [rX10_told, sX10_told, if_neg c1, if_neg c2, if_neg c3, if_neg c4, if_neg c5, if_pos c6, bI_t, bI_f])
  by_cases c7 : (x1 : Int32) = 6
  · refine g_tabIn (tgt := 129) 6 dX10_told_1 c7 (by decide) (by decide) rfl (by decide) ?_
    refine g_aload_n (pc' := 130) dX10_told_129 rfl 0 rfl rfl ?_
    refine g_getR (pc' := 133) (a := 51) dX10_told_130 rfl (PLk.lf fX10_40) o0 rfl ?_
    refine g_aload_n (pc' := 134) dX10_told_133 rfl 0 rfl rfl ?_
    refine g_getR (pc' := 137) (a := 1) dX10_told_134 rfl (PLk.lf fX10_10) o0 rfl ?_
    refine g_callv (pc' := 140) dX10_told_137 rfl mX10_110 (ev_X2_lookAround (n := n) (σ := σ) hz hn (d := d + 1)) o51 rfl (rm_ok (by omega) (by decide)) ⟨rfl, rfl⟩ ⟨Nat.zero_le _, Nat.zero_le _⟩ rfl rfl (Nat.le_of_ble_eq_true rfl) ?_
    refine g_aload_n (pc' := 141) dX10_told_140 rfl 0 rfl rfl ?_
    refine g_callr (pc' := 144) dX10_told_141 rfl mX10_124 (ev_X10_firstWrong (n := n) (bl := bl) (σ := laR n σ) (by rw [laR_1 (by omega) (by omega)]; exact hz) hn (laR_w hw) (by rw [laR_1 (by omega) (by omega)]; exact hb) hbl (d := d + 2)) o0 rfl (rm_ok (by omega) (by decide)) ⟨rfl, rfl⟩ ⟨Nat.zero_le _, Nat.zero_le _⟩ rfl rfl (Nat.le_of_ble_eq_true rfl) ?_
    exact g_iret dX10_told_144 rfl ⟨rfl, rfl⟩ (by simp only [rX10_told, sX10_told, if_neg c1, if_neg c2, if_neg c3, if_neg c4, if_neg c5, if_neg c6, if_pos c7, bI_t, bI_f])
  by_cases c8 : (x1 : Int32) = 7
  · refine g_tabIn (tgt := 145) 7 dX10_told_1 c8 (by decide) (by decide) rfl (by decide) ?_
    refine g_aload_n (pc' := 146) dX10_told_145 rfl 0 rfl rfl ?_
    refine g_getR (pc' := 149) (a := 3) dX10_told_146 rfl (PLk.lf fX10_19) o0 rfl ?_
    refine g_callr (pc' := 152) dX10_told_149 rfl mX10_127 (ev_X4_length  (σ := σ)  (d := d + 6)) o3 rfl (rm_ok (by omega) (by decide)) ⟨rfl, rfl⟩ ⟨Nat.zero_le _, Nat.zero_le _⟩ rfl rfl (Nat.le_of_ble_eq_true rfl) ?_
    exact g_iret dX10_told_152 rfl ⟨rfl, rfl⟩ (by simp only [rX10_told, sX10_told, if_neg c1, if_neg c2, if_neg c3, if_neg c4, if_neg c5, if_neg c6, if_neg c7, if_pos c8, bI_t, bI_f])
  refine g_tabOut (tgt := 153) dX10_told_1 (by have hh := And.intro trivial trivial; have hh0 := lv_neT c1 (a := 0) (by decide); have hh1 := lv_neT c2 (a := 1) (by decide); have hh2 := lv_neT c3 (a := 2) (by decide); have hh3 := lv_neT c4 (a := 3) (by decide); have hh4 := lv_neT c5 (a := 4) (by decide); have hh5 := lv_neT c6 (a := 5) (by decide); have hh6 := lv_neT c7 (a := 6) (by decide); have hh7 := lv_neT c8 (a := 7) (by decide); omega) (by decide) ?_
  refine g_ldc (pc' := 155) dX10_told_153 rfl kX10_68 ?_
  exact g_iret dX10_told_155 rfl ⟨rfl, rfl⟩ (by simp only [rX10_told, sX10_told, if_neg c1, if_neg c2, if_neg c3, if_neg c4, if_neg c5, if_neg c6, if_neg c7, if_neg c8, bI_t, bI_f])
def rX10_square (n : Nat) (x1 : Int32) (x2 : Int32) (σ : Sg) : Int32 := if (rX5_has 1 2 x1 σ) = true then if (x2 : Int32) = 0 then rX3_kind (65 + 7 * (x1.toNatClampNeg)) (65 + 7 * (x1.toNatClampNeg) + 1) (65 + 7 * (x1.toNatClampNeg) + 2) (65 + 7 * (x1.toNatClampNeg) + 3) (65 + 7 * (x1.toNatClampNeg) + 4) (65 + 7 * (x1.toNatClampNeg) + 5) (65 + 7 * (x1.toNatClampNeg) + 6) (laR n σ) else if (x2 : Int32) = 1 then (rX3_trace (65 + 7 * (x1.toNatClampNeg)) (65 + 7 * (x1.toNatClampNeg) + 1) (65 + 7 * (x1.toNatClampNeg) + 2) (65 + 7 * (x1.toNatClampNeg) + 3) (65 + 7 * (x1.toNatClampNeg) + 4) (65 + 7 * (x1.toNatClampNeg) + 5) (65 + 7 * (x1.toNatClampNeg) + 6) (laR n σ)) + 2000000 else if (x2 : Int32) = 2 then (rX3_sign (65 + 7 * (x1.toNatClampNeg)) (65 + 7 * (x1.toNatClampNeg) + 1) (65 + 7 * (x1.toNatClampNeg) + 2) (65 + 7 * (x1.toNatClampNeg) + 3) (65 + 7 * (x1.toNatClampNeg) + 4) (65 + 7 * (x1.toNatClampNeg) + 5) (65 + 7 * (x1.toNatClampNeg) + 6) (laR n σ)) + 1 else if (x2 : Int32) = 3 then rX3_order (65 + 7 * (x1.toNatClampNeg)) (65 + 7 * (x1.toNatClampNeg) + 1) (65 + 7 * (x1.toNatClampNeg) + 2) (65 + 7 * (x1.toNatClampNeg) + 3) (65 + 7 * (x1.toNatClampNeg) + 4) (65 + 7 * (x1.toNatClampNeg) + 5) (65 + 7 * (x1.toNatClampNeg) + 6) (laR n σ) else if (x2 : Int32) = 4 then if (rX3_kind (65 + 7 * (x1.toNatClampNeg)) (65 + 7 * (x1.toNatClampNeg) + 1) (65 + 7 * (x1.toNatClampNeg) + 2) (65 + 7 * (x1.toNatClampNeg) + 3) (65 + 7 * (x1.toNatClampNeg) + 4) (65 + 7 * (x1.toNatClampNeg) + 5) (65 + 7 * (x1.toNatClampNeg) + 6) (laR n σ) : Int32) = 2 then (rX3_mark (65 + 7 * (x1.toNatClampNeg)) (65 + 7 * (x1.toNatClampNeg) + 1) (65 + 7 * (x1.toNatClampNeg) + 2) (65 + 7 * (x1.toNatClampNeg) + 3) (65 + 7 * (x1.toNatClampNeg) + 4) (65 + 7 * (x1.toNatClampNeg) + 5) (65 + 7 * (x1.toNatClampNeg) + 6) (laR n σ)) + 3000000 else 0 else if (x2 : Int32) = 5 then rX8_count (65 + 7 * (x1.toNatClampNeg) + 2) (65 + 7 * (x1.toNatClampNeg) + 3) (65 + 7 * (x1.toNatClampNeg) + 4) (65 + 7 * (x1.toNatClampNeg) + 5) (65 + 7 * (x1.toNatClampNeg) + 6) (laR n σ) else if (x2 : Int32) = 6 then nI (timesF ((laR n σ).1 (65 + 7 * (x1.toNatClampNeg) + 3)) (cnt (laR n σ) (65 + 7 * (x1.toNatClampNeg) + 2)) 21 2) else if (x2 : Int32) = 7 then if (rX2_isTwin (x1.toNatClampNeg) x1 (laR n σ)) = true then 1 else 0 else if (x2 : Int32) = 8 then famF (laR n σ) (x1.toNatClampNeg) n 0 0 else if (x2 : Int32) = 9 then if (rX2_isLikeMirrored (x1.toNatClampNeg) x1 (laR n σ)) = true then 1 else 0 else if (x2 : Int32) = 10 then sumI ((laR n σ).1 (65 + 7 * (x1.toNatClampNeg) + 3)) (cnt (laR n σ) (65 + 7 * (x1.toNatClampNeg) + 2)) else -1000000002 else -1000000001
def sX10_square (n : Nat) (x1 : Int32) (x2 : Int32) (σ : Sg) : Sg := if (rX5_has 1 2 x1 σ) = true then if (x2 : Int32) = 0 then laR n σ else if (x2 : Int32) = 1 then laR n σ else if (x2 : Int32) = 2 then laR n σ else if (x2 : Int32) = 3 then laR n σ else if (x2 : Int32) = 4 then if (rX3_kind (65 + 7 * (x1.toNatClampNeg)) (65 + 7 * (x1.toNatClampNeg) + 1) (65 + 7 * (x1.toNatClampNeg) + 2) (65 + 7 * (x1.toNatClampNeg) + 3) (65 + 7 * (x1.toNatClampNeg) + 4) (65 + 7 * (x1.toNatClampNeg) + 5) (65 + 7 * (x1.toNatClampNeg) + 6) (laR n σ) : Int32) = 2 then laR n σ else laR n σ else if (x2 : Int32) = 5 then laR n σ else if (x2 : Int32) = 6 then laR n σ else if (x2 : Int32) = 7 then if (rX2_isTwin (x1.toNatClampNeg) x1 (laR n σ)) = true then sX2_isTwin (x1.toNatClampNeg) x1 (laR n σ) else sX2_isTwin (x1.toNatClampNeg) x1 (laR n σ) else if (x2 : Int32) = 8 then laR n σ else if (x2 : Int32) = 9 then if (rX2_isLikeMirrored (x1.toNatClampNeg) x1 (laR n σ)) = true then sX2_isLikeMirrored (x1.toNatClampNeg) x1 (laR n σ) else sX2_isLikeMirrored (x1.toNatClampNeg) x1 (laR n σ) else if (x2 : Int32) = 10 then laR n σ else laR n σ else σ
set_option maxRecDepth 100000 in
set_option maxHeartbeats 4000000 in
theorem ev_X10_square {l : Launch} {b : Nat} {cy : Nat → ClassId} {D : va_G} {d : Nat} {n : Nat} {x1 : Int32} {x2 : Int32} {σ : Sg}  (hz : σ.1 1 1 = nI n) (hn : n ≤ 12) (hw : WAll σ) (h5 : WOk σ 55) : Es l b cy D (d + 6) yX10_square cX10_square (Option.some Jvm.ClassFile.FieldType.int) 4 [.ref (b + 0), .int (x1), .int (x2)] σ (some (.int (rX10_square n x1 x2 σ))) (sX10_square n x1 x2 σ) := by
  refine Ev.of (by decide) (Nat.le_of_ble_eq_true rfl) rfl ?_
  refine g_aload_n (pc' := 1) dX10_square_0 rfl 0 rfl rfl ?_
  refine g_getR (pc' := 4) (a := 1) dX10_square_1 rfl (PLk.lf fX10_10) o0 rfl ?_
  refine g_iload_n (pc' := 5) dX10_square_4 rfl 1 rfl rfl ?_
  refine g_callr (pc' := 8) dX10_square_5 rfl mX10_135 (ev_X5_has (k := 1) (c := 2) (x1 := x1) (σ := σ) sf1 (d := d + 5)) o1 rfl (rm_ok (by omega) (by decide)) ⟨rfl, rfl⟩ ⟨Nat.zero_le _, Nat.zero_le _⟩ rfl rfl (Nat.le_of_ble_eq_true rfl) ?_
  refine g_ifb_ne (pc' := 11) (tgt := 14) dX10_square_8 rfl (by decide) (fun (c1 : (rX5_has 1 2 x1 σ) = true) => ?_) (fun (c1 : (rX5_has 1 2 x1 σ) = false) => ?_)
  · obtain ⟨q1, h1⟩ := has_t hz hn c1
    refine g_aload_n (pc' := 15) dX10_square_14 rfl 0 rfl rfl ?_
    refine g_getR (pc' := 18) (a := 51) dX10_square_15 rfl (PLk.lf fX10_40) o0 rfl ?_
    refine g_aload_n (pc' := 19) dX10_square_18 rfl 0 rfl rfl ?_
    refine g_getR (pc' := 22) (a := 1) dX10_square_19 rfl (PLk.lf fX10_10) o0 rfl ?_
    refine g_callv (pc' := 25) dX10_square_22 rfl mX10_110 (ev_X2_lookAround (n := n) (σ := σ) hz hn (d := d)) o51 rfl (rm_ok (by omega) (by decide)) ⟨rfl, rfl⟩ ⟨Nat.zero_le _, Nat.zero_le _⟩ rfl rfl (Nat.le_of_ble_eq_true rfl) ?_
    refine g_aload_n (pc' := 26) dX10_square_25 rfl 0 rfl rfl ?_
    refine g_getR (pc' := 29) (a := 51) dX10_square_26 rfl (PLk.lf fX10_40) o0 rfl ?_
    refine g_iload_n (pc' := 30) dX10_square_29 rfl 1 rfl rfl ?_
    refine g_callr (pc' := 33) dX10_square_30 rfl mX10_152 (ev_X2_kinOf (s := (x1.toNatClampNeg)) (x1 := x1) (σ := laR n σ) q1 (show x1.toNatClampNeg < 12 by omega) (d := d + 5)) o51 rfl (rm_ok (by omega) (by decide)) ⟨rfl, rfl⟩ ⟨Nat.zero_le _, Nat.zero_le _⟩ rfl rfl (Nat.le_of_ble_eq_true rfl) ?_
    refine g_astore_n (pc' := 34) (j := 3) (lv' := [(3, .ref (b + (65 + 7 * (x1.toNatClampNeg)))), (0, .ref (b + 0)), (1, .int (x1)), (2, .int (x2))]) dX10_square_33 rfl rfl (by decide) rfl ?_
    refine g_iload_n (pc' := 35) dX10_square_34 rfl 3 rfl rfl ?_
    by_cases c2 : (x2 : Int32) = 0
    · refine g_tabIn (tgt := 92) 0 dX10_square_35 c2 (by decide) (by decide) rfl (by decide) ?_
      refine g_aload_n (pc' := 93) dX10_square_92 rfl 0 rfl rfl ?_
      refine g_callr (pc' := 96) dX10_square_93 rfl mX10_156 (ev_X3_kind (k := (65 + 7 * (x1.toNatClampNeg))) (s := (65 + 7 * (x1.toNatClampNeg) + 1)) (h := (65 + 7 * (x1.toNatClampNeg) + 2)) (r := (65 + 7 * (x1.toNatClampNeg) + 3)) (e := (65 + 7 * (x1.toNatClampNeg) + 4)) (w := (65 + 7 * (x1.toNatClampNeg) + 5)) (p := (65 + 7 * (x1.toNatClampNeg) + 6)) (σ := laR n σ) (kiN _ (show x1.toNatClampNeg < 12 by omega)) (d := d + 5)) (kiN _ (show x1.toNatClampNeg < 12 by omega)).1 rfl (rm_ok (by omega) (by decide)) ⟨rfl, rfl⟩ ⟨Nat.zero_le _, Nat.zero_le _⟩ rfl rfl (Nat.le_of_ble_eq_true rfl) ?_
      exact g_iret dX10_square_96 rfl ⟨rfl, rfl⟩ (by simp only [rX10_square, sX10_square, if_pos c1, if_pos c2, bI_t, bI_f])
    by_cases c3 : (x2 : Int32) = 1
    · refine g_tabIn (tgt := 97) 1 dX10_square_35 c3 (by decide) (by decide) rfl (by decide) ?_
      refine g_aload_n (pc' := 98) dX10_square_97 rfl 0 rfl rfl ?_
      refine g_callr (pc' := 101) dX10_square_98 rfl mX10_161 (ev_X3_trace (k := (65 + 7 * (x1.toNatClampNeg))) (s := (65 + 7 * (x1.toNatClampNeg) + 1)) (h := (65 + 7 * (x1.toNatClampNeg) + 2)) (r := (65 + 7 * (x1.toNatClampNeg) + 3)) (e := (65 + 7 * (x1.toNatClampNeg) + 4)) (w := (65 + 7 * (x1.toNatClampNeg) + 5)) (p := (65 + 7 * (x1.toNatClampNeg) + 6)) (σ := laR n σ) (kiN _ (show x1.toNatClampNeg < 12 by omega)) (d := d + 4)) (kiN _ (show x1.toNatClampNeg < 12 by omega)).1 rfl (rm_ok (by omega) (by decide)) ⟨rfl, rfl⟩ ⟨Nat.zero_le _, Nat.zero_le _⟩ rfl rfl (Nat.le_of_ble_eq_true rfl) ?_
      refine g_ldc (pc' := 103) dX10_square_101 rfl kX10_164 ?_
      refine g_iadd (pc' := 104) dX10_square_103 rfl ?_
      exact g_iret dX10_square_104 rfl ⟨rfl, rfl⟩ (by simp only [rX10_square, sX10_square, if_pos c1, if_neg c2, if_pos c3, bI_t, bI_f])
    by_cases c4 : (x2 : Int32) = 2
    · refine g_tabIn (tgt := 105) 2 dX10_square_35 c4 (by decide) (by decide) rfl (by decide) ?_
      refine g_aload_n (pc' := 106) dX10_square_105 rfl 0 rfl rfl ?_
      refine g_callr (pc' := 109) dX10_square_106 rfl mX10_165 (ev_X3_sign (k := (65 + 7 * (x1.toNatClampNeg))) (s := (65 + 7 * (x1.toNatClampNeg) + 1)) (h := (65 + 7 * (x1.toNatClampNeg) + 2)) (r := (65 + 7 * (x1.toNatClampNeg) + 3)) (e := (65 + 7 * (x1.toNatClampNeg) + 4)) (w := (65 + 7 * (x1.toNatClampNeg) + 5)) (p := (65 + 7 * (x1.toNatClampNeg) + 6)) (σ := laR n σ) (kiN _ (show x1.toNatClampNeg < 12 by omega)) (d := d + 3)) (kiN _ (show x1.toNatClampNeg < 12 by omega)).1 rfl (rm_ok (by omega) (by decide)) ⟨rfl, rfl⟩ ⟨Nat.zero_le _, Nat.zero_le _⟩ rfl rfl (Nat.le_of_ble_eq_true rfl) ?_
      refine g_iconst (pc' := 110) (v := 1) dX10_square_109 rfl (by decide) ?_
      refine g_iadd (pc' := 111) dX10_square_110 rfl ?_
      exact g_iret dX10_square_111 rfl ⟨rfl, rfl⟩ (by simp only [rX10_square, sX10_square, if_pos c1, if_neg c2, if_neg c3, if_pos c4, bI_t, bI_f])
    by_cases c5 : (x2 : Int32) = 3
    · refine g_tabIn (tgt := 112) 3 dX10_square_35 c5 (by decide) (by decide) rfl (by decide) ?_
      refine g_aload_n (pc' := 113) dX10_square_112 rfl 0 rfl rfl ?_
      refine g_callr (pc' := 116) dX10_square_113 rfl mX10_168 (ev_X3_order (k := (65 + 7 * (x1.toNatClampNeg))) (s := (65 + 7 * (x1.toNatClampNeg) + 1)) (h := (65 + 7 * (x1.toNatClampNeg) + 2)) (r := (65 + 7 * (x1.toNatClampNeg) + 3)) (e := (65 + 7 * (x1.toNatClampNeg) + 4)) (w := (65 + 7 * (x1.toNatClampNeg) + 5)) (p := (65 + 7 * (x1.toNatClampNeg) + 6)) (σ := laR n σ) (kiN _ (show x1.toNatClampNeg < 12 by omega)) (d := d + 3)) (kiN _ (show x1.toNatClampNeg < 12 by omega)).1 rfl (rm_ok (by omega) (by decide)) ⟨rfl, rfl⟩ ⟨Nat.zero_le _, Nat.zero_le _⟩ rfl rfl (Nat.le_of_ble_eq_true rfl) ?_
      exact g_iret dX10_square_116 rfl ⟨rfl, rfl⟩ (by simp only [rX10_square, sX10_square, if_pos c1, if_neg c2, if_neg c3, if_neg c4, if_pos c5, bI_t, bI_f])
    by_cases c6 : (x2 : Int32) = 4
    · refine g_tabIn (tgt := 117) 4 dX10_square_35 c6 (by decide) (by decide) rfl (by decide) ?_
      refine g_aload_n (pc' := 118) dX10_square_117 rfl 0 rfl rfl ?_
      refine g_callr (pc' := 121) dX10_square_118 rfl mX10_156 (ev_X3_kind (k := (65 + 7 * (x1.toNatClampNeg))) (s := (65 + 7 * (x1.toNatClampNeg) + 1)) (h := (65 + 7 * (x1.toNatClampNeg) + 2)) (r := (65 + 7 * (x1.toNatClampNeg) + 3)) (e := (65 + 7 * (x1.toNatClampNeg) + 4)) (w := (65 + 7 * (x1.toNatClampNeg) + 5)) (p := (65 + 7 * (x1.toNatClampNeg) + 6)) (σ := laR n σ) (kiN _ (show x1.toNatClampNeg < 12 by omega)) (d := d + 5)) (kiN _ (show x1.toNatClampNeg < 12 by omega)).1 rfl (rm_ok (by omega) (by decide)) ⟨rfl, rfl⟩ ⟨Nat.zero_le _, Nat.zero_le _⟩ rfl rfl (Nat.le_of_ble_eq_true rfl) ?_
      refine g_iconst (pc' := 122) (v := 2) dX10_square_121 rfl (by decide) ?_
      refine g_icmp_ne (pc' := 125) (tgt := 135) dX10_square_122 rfl (by decide) (fun (c7 : ¬ (rX3_kind (65 + 7 * (x1.toNatClampNeg)) (65 + 7 * (x1.toNatClampNeg) + 1) (65 + 7 * (x1.toNatClampNeg) + 2) (65 + 7 * (x1.toNatClampNeg) + 3) (65 + 7 * (x1.toNatClampNeg) + 4) (65 + 7 * (x1.toNatClampNeg) + 5) (65 + 7 * (x1.toNatClampNeg) + 6) (laR n σ) : Int32) = 2) => ?_) (fun (c7 : (rX3_kind (65 + 7 * (x1.toNatClampNeg)) (65 + 7 * (x1.toNatClampNeg) + 1) (65 + 7 * (x1.toNatClampNeg) + 2) (65 + 7 * (x1.toNatClampNeg) + 3) (65 + 7 * (x1.toNatClampNeg) + 4) (65 + 7 * (x1.toNatClampNeg) + 5) (65 + 7 * (x1.toNatClampNeg) + 6) (laR n σ) : Int32) = 2) => ?_)
      · refine g_iconst (pc' := 136) (v := 0) dX10_square_135 rfl (by decide) ?_
        exact g_iret dX10_square_136 rfl ⟨rfl, rfl⟩ (by simp only [rX10_square, sX10_square, if_pos c1, if_neg c2, if_neg c3, if_neg c4, if_neg c5, if_pos c6, if_neg c7, bI_t, bI_f])
      · refine g_aload_n (pc' := 126) dX10_square_125 rfl 0 rfl rfl ?_
        refine g_callr (pc' := 129) dX10_square_126 rfl mX10_171 (ev_X3_mark (k := (65 + 7 * (x1.toNatClampNeg))) (s := (65 + 7 * (x1.toNatClampNeg) + 1)) (h := (65 + 7 * (x1.toNatClampNeg) + 2)) (r := (65 + 7 * (x1.toNatClampNeg) + 3)) (e := (65 + 7 * (x1.toNatClampNeg) + 4)) (w := (65 + 7 * (x1.toNatClampNeg) + 5)) (p := (65 + 7 * (x1.toNatClampNeg) + 6)) (σ := laR n σ) (kiN _ (show x1.toNatClampNeg < 12 by omega)) (d := d + 5)) (kiN _ (show x1.toNatClampNeg < 12 by omega)).1 rfl (rm_ok (by omega) (by decide)) ⟨rfl, rfl⟩ ⟨Nat.zero_le _, Nat.zero_le _⟩ rfl rfl (Nat.le_of_ble_eq_true rfl) ?_
        refine g_ldc (pc' := 131) dX10_square_129 rfl kX10_174 ?_
        refine g_iadd (pc' := 132) dX10_square_131 rfl ?_
        refine g_goto (tgt := 136) dX10_square_132 (by decide) ?_
        exact g_iret dX10_square_136 rfl ⟨rfl, rfl⟩ (by simp only [rX10_square, sX10_square, if_pos c1, if_neg c2, if_neg c3, if_neg c4, if_neg c5, if_pos c6, if_pos c7, bI_t, bI_f])
    by_cases c8 : (x2 : Int32) = 5
    · refine g_tabIn (tgt := 137) 5 dX10_square_35 c8 (by decide) (by decide) rfl (by decide) ?_
      refine g_aload_n (pc' := 138) dX10_square_137 rfl 0 rfl rfl ?_
      refine g_callr (pc' := 141) dX10_square_138 rfl mX10_175 (ev_X3_wheel (k := (65 + 7 * (x1.toNatClampNeg))) (s := (65 + 7 * (x1.toNatClampNeg) + 1)) (h := (65 + 7 * (x1.toNatClampNeg) + 2)) (r := (65 + 7 * (x1.toNatClampNeg) + 3)) (e := (65 + 7 * (x1.toNatClampNeg) + 4)) (w := (65 + 7 * (x1.toNatClampNeg) + 5)) (p := (65 + 7 * (x1.toNatClampNeg) + 6)) (σ := laR n σ) (kiN _ (show x1.toNatClampNeg < 12 by omega)) (d := d + 5)) (kiN _ (show x1.toNatClampNeg < 12 by omega)).1 rfl (rm_ok (by omega) (by decide)) ⟨rfl, rfl⟩ ⟨Nat.zero_le _, Nat.zero_le _⟩ rfl rfl (Nat.le_of_ble_eq_true rfl) ?_
      refine g_callr (pc' := 144) dX10_square_141 rfl mX10_179 (ev_X8_count (k := (65 + 7 * (x1.toNatClampNeg) + 2)) (r := (65 + 7 * (x1.toNatClampNeg) + 3)) (e := (65 + 7 * (x1.toNatClampNeg) + 4)) (w := (65 + 7 * (x1.toNatClampNeg) + 5)) (p := (65 + 7 * (x1.toNatClampNeg) + 6)) (σ := laR n σ) (kiN _ (show x1.toNatClampNeg < 12 by omega)).2.2 (d := d + 5)) (kiN _ (show x1.toNatClampNeg < 12 by omega)).2.2.1 rfl (rm_ok (by omega) (by decide)) ⟨rfl, rfl⟩ ⟨Nat.zero_le _, Nat.zero_le _⟩ rfl rfl (Nat.le_of_ble_eq_true rfl) ?_
      exact g_iret dX10_square_144 rfl ⟨rfl, rfl⟩ (by simp only [rX10_square, sX10_square, if_pos c1, if_neg c2, if_neg c3, if_neg c4, if_neg c5, if_neg c6, if_pos c8, bI_t, bI_f])
    by_cases c9 : (x2 : Int32) = 6
    · refine g_tabIn (tgt := 145) 6 dX10_square_35 c9 (by decide) (by decide) rfl (by decide) ?_
      refine g_aload_n (pc' := 146) dX10_square_145 rfl 0 rfl rfl ?_
      refine g_callr (pc' := 149) dX10_square_146 rfl mX10_175 (ev_X3_wheel (k := (65 + 7 * (x1.toNatClampNeg))) (s := (65 + 7 * (x1.toNatClampNeg) + 1)) (h := (65 + 7 * (x1.toNatClampNeg) + 2)) (r := (65 + 7 * (x1.toNatClampNeg) + 3)) (e := (65 + 7 * (x1.toNatClampNeg) + 4)) (w := (65 + 7 * (x1.toNatClampNeg) + 5)) (p := (65 + 7 * (x1.toNatClampNeg) + 6)) (σ := laR n σ) (kiN _ (show x1.toNatClampNeg < 12 by omega)) (d := d + 5)) (kiN _ (show x1.toNatClampNeg < 12 by omega)).1 rfl (rm_ok (by omega) (by decide)) ⟨rfl, rfl⟩ ⟨Nat.zero_le _, Nat.zero_le _⟩ rfl rfl (Nat.le_of_ble_eq_true rfl) ?_
      refine g_callr (pc' := 152) dX10_square_149 rfl mX10_184 (ev_X8_times (k := (65 + 7 * (x1.toNatClampNeg) + 2)) (r := (65 + 7 * (x1.toNatClampNeg) + 3)) (e := (65 + 7 * (x1.toNatClampNeg) + 4)) (w := (65 + 7 * (x1.toNatClampNeg) + 5)) (p := (65 + 7 * (x1.toNatClampNeg) + 6)) (n := cnt (laR n σ) (65 + 7 * (x1.toNatClampNeg) + 2)) (σ := laR n σ) (kiN _ (show x1.toNatClampNeg < 12 by omega)).2.2 (laR_w hw _ (by omega)).1 (laR_w hw _ (by omega)).2.1 (d := d + 4)) (kiN _ (show x1.toNatClampNeg < 12 by omega)).2.2.1 rfl (rm_ok (by omega) (by decide)) ⟨rfl, rfl⟩ ⟨Nat.zero_le _, Nat.zero_le _⟩ rfl rfl (Nat.le_of_ble_eq_true rfl) ?_
      exact g_iret dX10_square_152 rfl ⟨rfl, rfl⟩ (by simp only [rX10_square, sX10_square, if_pos c1, if_neg c2, if_neg c3, if_neg c4, if_neg c5, if_neg c6, if_neg c8, if_pos c9, bI_t, bI_f])
    by_cases c10 : (x2 : Int32) = 7
    · refine g_tabIn (tgt := 153) 7 dX10_square_35 c10 (by decide) (by decide) rfl (by decide) ?_
      refine g_aload_n (pc' := 154) dX10_square_153 rfl 1 rfl rfl ?_
      refine g_getR (pc' := 157) (a := 51) dX10_square_154 rfl (PLk.lf fX10_40) o0 rfl ?_
      refine g_iload_n (pc' := 158) dX10_square_157 rfl 2 rfl rfl ?_
      refine g_callr (pc' := 161) dX10_square_158 rfl mX10_187 (ev_X2_isTwin (s := (x1.toNatClampNeg)) (x1 := x1) (σ := laR n σ) q1 (by omega) (laR_w hw _ (by omega)) (laR_x h5) (d := d)) o51 rfl (rm_ok (by omega) (by decide)) ⟨rfl, rfl⟩ ⟨Nat.zero_le _, Nat.zero_le _⟩ rfl rfl (Nat.le_of_ble_eq_true rfl) ?_
      refine g_ifb_eq (pc' := 164) (tgt := 168) dX10_square_161 rfl (by decide) (fun (c11 : (rX2_isTwin (x1.toNatClampNeg) x1 (laR n σ)) = false) => ?_) (fun (c11 : (rX2_isTwin (x1.toNatClampNeg) x1 (laR n σ)) = true) => ?_)
      · refine g_iconst (pc' := 169) (v := 0) dX10_square_168 rfl (by decide) ?_
        exact g_iret dX10_square_169 rfl ⟨rfl, rfl⟩ (by simp only [rX10_square, sX10_square, if_pos c1, if_neg c2, if_neg c3, if_neg c4, if_neg c5, if_neg c6, if_neg c8, if_neg c9, if_pos c10, if_neg (bf c11), bI_t, bI_f])
      · refine g_iconst (pc' := 165) (v := 1) dX10_square_164 rfl (by decide) ?_
        refine g_goto (tgt := 169) dX10_square_165 (by decide) ?_
        exact g_iret dX10_square_169 rfl ⟨rfl, rfl⟩ (by simp only [rX10_square, sX10_square, if_pos c1, if_neg c2, if_neg c3, if_neg c4, if_neg c5, if_neg c6, if_neg c8, if_neg c9, if_pos c10, if_pos c11, bI_t, bI_f])
    by_cases c12 : (x2 : Int32) = 8
    · refine g_tabIn (tgt := 170) 8 dX10_square_35 c12 (by decide) (by decide) rfl (by decide) ?_
      refine g_aload_n (pc' := 171) dX10_square_170 rfl 1 rfl rfl ?_
      refine g_getR (pc' := 174) (a := 51) dX10_square_171 rfl (PLk.lf fX10_40) o0 rfl ?_
      refine g_iload_n (pc' := 175) dX10_square_174 rfl 2 rfl rfl ?_
      refine g_callr (pc' := 178) dX10_square_175 rfl mX10_190 (ev_X2_familyOf (x1 := x1) (s := (x1.toNatClampNeg)) (n := n) (σ := laR n σ) q1 (by omega) (laR_z hz) hn (laR_w hw) (d := d + 1)) o51 rfl (rm_ok (by omega) (by decide)) ⟨rfl, rfl⟩ ⟨Nat.zero_le _, Nat.zero_le _⟩ rfl rfl (Nat.le_of_ble_eq_true rfl) ?_
      exact g_iret dX10_square_178 rfl ⟨rfl, rfl⟩ (by simp only [rX10_square, sX10_square, if_pos c1, if_neg c2, if_neg c3, if_neg c4, if_neg c5, if_neg c6, if_neg c8, if_neg c9, if_neg c10, if_pos c12, bI_t, bI_f])
    by_cases c13 : (x2 : Int32) = 9
    · refine g_tabIn (tgt := 179) 9 dX10_square_35 c13 (by decide) (by decide) rfl (by decide) ?_
      refine g_aload_n (pc' := 180) dX10_square_179 rfl 1 rfl rfl ?_
      refine g_getR (pc' := 183) (a := 51) dX10_square_180 rfl (PLk.lf fX10_40) o0 rfl ?_
      refine g_iload_n (pc' := 184) dX10_square_183 rfl 2 rfl rfl ?_
      refine g_callr (pc' := 187) dX10_square_184 rfl mX10_193 (ev_X2_isLikeMirrored (s := (x1.toNatClampNeg)) (x1 := x1) (σ := laR n σ) q1 (by omega) (laR_w hw _ (by omega)) (laR_x h5) (d := d)) o51 rfl (rm_ok (by omega) (by decide)) ⟨rfl, rfl⟩ ⟨Nat.zero_le _, Nat.zero_le _⟩ rfl rfl (Nat.le_of_ble_eq_true rfl) ?_
      refine g_ifb_eq (pc' := 190) (tgt := 194) dX10_square_187 rfl (by decide) (fun (c14 : (rX2_isLikeMirrored (x1.toNatClampNeg) x1 (laR n σ)) = false) => ?_) (fun (c14 : (rX2_isLikeMirrored (x1.toNatClampNeg) x1 (laR n σ)) = true) => ?_)
      · refine g_iconst (pc' := 195) (v := 0) dX10_square_194 rfl (by decide) ?_
        exact g_iret dX10_square_195 rfl ⟨rfl, rfl⟩ (by simp only [rX10_square, sX10_square, if_pos c1, if_neg c2, if_neg c3, if_neg c4, if_neg c5, if_neg c6, if_neg c8, if_neg c9, if_neg c10, if_neg c12, if_pos c13, if_neg (bf c14), bI_t, bI_f])
      · refine g_iconst (pc' := 191) (v := 1) dX10_square_190 rfl (by decide) ?_
        refine g_goto (tgt := 195) dX10_square_191 (by decide) ?_
        exact g_iret dX10_square_195 rfl ⟨rfl, rfl⟩ (by simp only [rX10_square, sX10_square, if_pos c1, if_neg c2, if_neg c3, if_neg c4, if_neg c5, if_neg c6, if_neg c8, if_neg c9, if_neg c10, if_neg c12, if_pos c13, if_pos c14, bI_t, bI_f])
    by_cases c15 : (x2 : Int32) = 10
    · refine g_tabIn (tgt := 196) 10 dX10_square_35 c15 (by decide) (by decide) rfl (by decide) ?_
      refine g_aload_n (pc' := 197) dX10_square_196 rfl 0 rfl rfl ?_
      refine g_callr (pc' := 200) dX10_square_197 rfl mX10_175 (ev_X3_wheel (k := (65 + 7 * (x1.toNatClampNeg))) (s := (65 + 7 * (x1.toNatClampNeg) + 1)) (h := (65 + 7 * (x1.toNatClampNeg) + 2)) (r := (65 + 7 * (x1.toNatClampNeg) + 3)) (e := (65 + 7 * (x1.toNatClampNeg) + 4)) (w := (65 + 7 * (x1.toNatClampNeg) + 5)) (p := (65 + 7 * (x1.toNatClampNeg) + 6)) (σ := laR n σ) (kiN _ (show x1.toNatClampNeg < 12 by omega)) (d := d + 5)) (kiN _ (show x1.toNatClampNeg < 12 by omega)).1 rfl (rm_ok (by omega) (by decide)) ⟨rfl, rfl⟩ ⟨Nat.zero_le _, Nat.zero_le _⟩ rfl rfl (Nat.le_of_ble_eq_true rfl) ?_
      refine g_callr (pc' := 203) dX10_square_200 rfl mX10_196 (ev_X8_letters (k := (65 + 7 * (x1.toNatClampNeg) + 2)) (r := (65 + 7 * (x1.toNatClampNeg) + 3)) (e := (65 + 7 * (x1.toNatClampNeg) + 4)) (w := (65 + 7 * (x1.toNatClampNeg) + 5)) (p := (65 + 7 * (x1.toNatClampNeg) + 6)) (n := cnt (laR n σ) (65 + 7 * (x1.toNatClampNeg) + 2)) (σ := laR n σ) (kiN _ (show x1.toNatClampNeg < 12 by omega)).2.2 (laR_w hw _ (by omega)).1 (laR_w hw _ (by omega)).2.1 (d := d + 5)) (kiN _ (show x1.toNatClampNeg < 12 by omega)).2.2.1 rfl (rm_ok (by omega) (by decide)) ⟨rfl, rfl⟩ ⟨Nat.zero_le _, Nat.zero_le _⟩ rfl rfl (Nat.le_of_ble_eq_true rfl) ?_
      exact g_iret dX10_square_203 rfl ⟨rfl, rfl⟩ (by simp only [rX10_square, sX10_square, if_pos c1, if_neg c2, if_neg c3, if_neg c4, if_neg c5, if_neg c6, if_neg c8, if_neg c9, if_neg c10, if_neg c12, if_neg c13, if_pos c15, bI_t, bI_f])
    refine g_tabOut (tgt := 204) dX10_square_35 (by have hh := And.intro trivial trivial; have hh0 := lv_neT c2 (a := 0) (by decide); have hh1 := lv_neT c3 (a := 1) (by decide); have hh2 := lv_neT c4 (a := 2) (by decide); have hh3 := lv_neT c5 (a := 3) (by decide); have hh4 := lv_neT c6 (a := 4) (by decide); have hh5 := lv_neT c8 (a := 5) (by decide); have hh6 := lv_neT c9 (a := 6) (by decide); have hh7 := lv_neT c10 (a := 7) (by decide); have hh8 := lv_neT c12 (a := 8) (by decide); have hh9 := lv_neT c13 (a := 9) (by decide); have hh10 := lv_neT c15 (a := 10) (by decide); omega) (by decide) ?_
    refine g_ldc (pc' := 206) dX10_square_204 rfl kX10_68 ?_
    exact g_iret dX10_square_206 rfl ⟨rfl, rfl⟩ (by simp only [rX10_square, sX10_square, if_pos c1, if_neg c2, if_neg c3, if_neg c4, if_neg c5, if_neg c6, if_neg c8, if_neg c9, if_neg c10, if_neg c12, if_neg c13, if_neg c15, bI_t, bI_f])
  · refine g_ldc (pc' := 13) dX10_square_11 rfl kX10_146 ?_
    exact g_iret dX10_square_13 rfl ⟨rfl, rfl⟩ (by simp only [rX10_square, sX10_square, if_neg (bf c1), bI_t, bI_f])
def rX10_run (n : Nat) (x1 : Int32) (x2 : Int32) (σ : Sg) : Int32 := if (rX5_has 1 2 x1 σ) = true then runAtF ((laR n σ).1 (65 + 7 * (x1.toNatClampNeg) + 3)) (cnt (laR n σ) (65 + 7 * (x1.toNatClampNeg) + 2)) (stt (laR n σ) (65 + 7 * (x1.toNatClampNeg) + 2)) x2 else -1000000001
def sX10_run (n : Nat) (x1 : Int32) (x2 : Int32) (σ : Sg) : Sg := if (rX5_has 1 2 x1 σ) = true then laR n σ else σ
set_option maxRecDepth 100000 in
set_option maxHeartbeats 4000000 in
theorem ev_X10_run {l : Launch} {b : Nat} {cy : Nat → ClassId} {D : va_G} {d : Nat} {n : Nat} {x1 : Int32} {x2 : Int32} {σ : Sg}  (hz : σ.1 1 1 = nI n) (hn : n ≤ 12) (hw : WAll σ) : Es l b cy D (d + 6) yX10_run cX10_run (Option.some Jvm.ClassFile.FieldType.int) 3 [.ref (b + 0), .int (x1), .int (x2)] σ (some (.int (rX10_run n x1 x2 σ))) (sX10_run n x1 x2 σ) := by
  refine Ev.of (by decide) (Nat.le_of_ble_eq_true rfl) rfl ?_
  refine g_aload_n (pc' := 1) dX10_run_0 rfl 0 rfl rfl ?_
  refine g_getR (pc' := 4) (a := 1) dX10_run_1 rfl (PLk.lf fX10_10) o0 rfl ?_
  refine g_iload_n (pc' := 5) dX10_run_4 rfl 1 rfl rfl ?_
  refine g_callr (pc' := 8) dX10_run_5 rfl mX10_135 (ev_X5_has (k := 1) (c := 2) (x1 := x1) (σ := σ) sf1 (d := d + 5)) o1 rfl (rm_ok (by omega) (by decide)) ⟨rfl, rfl⟩ ⟨Nat.zero_le _, Nat.zero_le _⟩ rfl rfl (Nat.le_of_ble_eq_true rfl) ?_
  refine g_ifb_ne (pc' := 11) (tgt := 14) dX10_run_8 rfl (by decide) (fun (c1 : (rX5_has 1 2 x1 σ) = true) => ?_) (fun (c1 : (rX5_has 1 2 x1 σ) = false) => ?_)
  · obtain ⟨q1, h1⟩ := has_t hz hn c1
    refine g_aload_n (pc' := 15) dX10_run_14 rfl 0 rfl rfl ?_
    refine g_getR (pc' := 18) (a := 51) dX10_run_15 rfl (PLk.lf fX10_40) o0 rfl ?_
    refine g_aload_n (pc' := 19) dX10_run_18 rfl 0 rfl rfl ?_
    refine g_getR (pc' := 22) (a := 1) dX10_run_19 rfl (PLk.lf fX10_10) o0 rfl ?_
    refine g_callv (pc' := 25) dX10_run_22 rfl mX10_110 (ev_X2_lookAround (n := n) (σ := σ) hz hn (d := d)) o51 rfl (rm_ok (by omega) (by decide)) ⟨rfl, rfl⟩ ⟨Nat.zero_le _, Nat.zero_le _⟩ rfl rfl (Nat.le_of_ble_eq_true rfl) ?_
    refine g_aload_n (pc' := 26) dX10_run_25 rfl 0 rfl rfl ?_
    refine g_getR (pc' := 29) (a := 51) dX10_run_26 rfl (PLk.lf fX10_40) o0 rfl ?_
    refine g_iload_n (pc' := 30) dX10_run_29 rfl 1 rfl rfl ?_
    refine g_callr (pc' := 33) dX10_run_30 rfl mX10_152 (ev_X2_kinOf (s := (x1.toNatClampNeg)) (x1 := x1) (σ := laR n σ) q1 (show x1.toNatClampNeg < 12 by omega) (d := d + 5)) o51 rfl (rm_ok (by omega) (by decide)) ⟨rfl, rfl⟩ ⟨Nat.zero_le _, Nat.zero_le _⟩ rfl rfl (Nat.le_of_ble_eq_true rfl) ?_
    refine g_callr (pc' := 36) dX10_run_33 rfl mX10_175 (ev_X3_wheel (k := (65 + 7 * (x1.toNatClampNeg))) (s := (65 + 7 * (x1.toNatClampNeg) + 1)) (h := (65 + 7 * (x1.toNatClampNeg) + 2)) (r := (65 + 7 * (x1.toNatClampNeg) + 3)) (e := (65 + 7 * (x1.toNatClampNeg) + 4)) (w := (65 + 7 * (x1.toNatClampNeg) + 5)) (p := (65 + 7 * (x1.toNatClampNeg) + 6)) (σ := laR n σ) (kiN _ (show x1.toNatClampNeg < 12 by omega)) (d := d + 5)) (kiN _ (show x1.toNatClampNeg < 12 by omega)).1 rfl (rm_ok (by omega) (by decide)) ⟨rfl, rfl⟩ ⟨Nat.zero_le _, Nat.zero_le _⟩ rfl rfl (Nat.le_of_ble_eq_true rfl) ?_
    refine g_iload_n (pc' := 37) dX10_run_36 rfl 2 rfl rfl ?_
    refine g_callr (pc' := 40) dX10_run_37 rfl mX10_199 (ev_X8_runAt (k := (65 + 7 * (x1.toNatClampNeg) + 2)) (r := (65 + 7 * (x1.toNatClampNeg) + 3)) (e := (65 + 7 * (x1.toNatClampNeg) + 4)) (w := (65 + 7 * (x1.toNatClampNeg) + 5)) (p := (65 + 7 * (x1.toNatClampNeg) + 6)) (x1 := x2) (n := cnt (laR n σ) (65 + 7 * (x1.toNatClampNeg) + 2)) (t := stt (laR n σ) (65 + 7 * (x1.toNatClampNeg) + 2)) (σ := laR n σ) (kiN _ (show x1.toNatClampNeg < 12 by omega)).2.2 (laR_w hw _ (by omega)).1 (laR_w hw _ (by omega)).2.1 (laR_w hw _ (by omega)).2.2.1 (laR_w hw _ (by omega)).t (d := d + 5)) (kiN _ (show x1.toNatClampNeg < 12 by omega)).2.2.1 rfl (rm_ok (by omega) (by decide)) ⟨rfl, rfl⟩ ⟨Nat.zero_le _, Nat.zero_le _⟩ rfl rfl (Nat.le_of_ble_eq_true rfl) ?_
    exact g_iret dX10_run_40 rfl ⟨rfl, rfl⟩ (by simp only [rX10_run, sX10_run, if_pos c1, bI_t, bI_f])
  · refine g_ldc (pc' := 13) dX10_run_11 rfl kX10_146 ?_
    exact g_iret dX10_run_13 rfl ⟨rfl, rfl⟩ (by simp only [rX10_run, sX10_run, if_neg (bf c1), bI_t, bI_f])
def rX10_pair (n : Nat) (x1 : Int32) (x2 : Int32) (x3 : Int32) (σ : Sg) : Int32 := if (rX5_has 1 2 x1 σ) = true then if (rX5_has 1 2 x2 σ) = true then if (x3 : Int32) = 0 then if (rX2_areAlike (x1.toNatClampNeg) (x2.toNatClampNeg) x1 x2 (laR n σ)) = true then 1 else 0 else if (x3 : Int32) = 1 then if (rX2_goTogether (x1.toNatClampNeg) (x2.toNatClampNeg) x1 x2 (laR n σ)) = true then 1 else 0 else if (x3 : Int32) = 2 then (bgR (x1.toNatClampNeg) (x2.toNatClampNeg) (laR n σ)).1 else -1000000002 else -1000000001 else -1000000001
def sX10_pair (n : Nat) (x1 : Int32) (x2 : Int32) (x3 : Int32) (σ : Sg) : Sg := if (rX5_has 1 2 x1 σ) = true then if (rX5_has 1 2 x2 σ) = true then if (x3 : Int32) = 0 then if (rX2_areAlike (x1.toNatClampNeg) (x2.toNatClampNeg) x1 x2 (laR n σ)) = true then laR n σ else laR n σ else if (x3 : Int32) = 1 then if (rX2_goTogether (x1.toNatClampNeg) (x2.toNatClampNeg) x1 x2 (laR n σ)) = true then sX2_goTogether (x1.toNatClampNeg) (x2.toNatClampNeg) x1 x2 (laR n σ) else sX2_goTogether (x1.toNatClampNeg) (x2.toNatClampNeg) x1 x2 (laR n σ) else if (x3 : Int32) = 2 then (bgR (x1.toNatClampNeg) (x2.toNatClampNeg) (laR n σ)).2 else laR n σ else σ else σ
set_option maxRecDepth 100000 in
set_option maxHeartbeats 4000000 in
theorem ev_X10_pair {l : Launch} {b : Nat} {cy : Nat → ClassId} {D : va_G} {d : Nat} {n : Nat} {x1 : Int32} {x2 : Int32} {x3 : Int32} {σ : Sg}  (hz : σ.1 1 1 = nI n) (hn : n ≤ 12) (hw : WAll σ) : Es l b cy D (d + 6) yX10_pair cX10_pair (Option.some Jvm.ClassFile.FieldType.int) 4 [.ref (b + 0), .int (x1), .int (x2), .int (x3)] σ (some (.int (rX10_pair n x1 x2 x3 σ))) (sX10_pair n x1 x2 x3 σ) := by
  refine Ev.of (by decide) (Nat.le_of_ble_eq_true rfl) rfl ?_
  refine g_aload_n (pc' := 1) dX10_pair_0 rfl 0 rfl rfl ?_
  refine g_getR (pc' := 4) (a := 1) dX10_pair_1 rfl (PLk.lf fX10_10) o0 rfl ?_
  refine g_iload_n (pc' := 5) dX10_pair_4 rfl 1 rfl rfl ?_
  refine g_callr (pc' := 8) dX10_pair_5 rfl mX10_135 (ev_X5_has (k := 1) (c := 2) (x1 := x1) (σ := σ) sf1 (d := d + 5)) o1 rfl (rm_ok (by omega) (by decide)) ⟨rfl, rfl⟩ ⟨Nat.zero_le _, Nat.zero_le _⟩ rfl rfl (Nat.le_of_ble_eq_true rfl) ?_
  refine g_ifb_eq (pc' := 11) (tgt := 22) dX10_pair_8 rfl (by decide) (fun (c1 : (rX5_has 1 2 x1 σ) = false) => ?_) (fun (c1 : (rX5_has 1 2 x1 σ) = true) => ?_)
  · refine g_ldc (pc' := 24) dX10_pair_22 rfl kX10_146 ?_
    exact g_iret dX10_pair_24 rfl ⟨rfl, rfl⟩ (by simp only [rX10_pair, sX10_pair, if_neg (bf c1), bI_t, bI_f])
  · refine g_aload_n (pc' := 12) dX10_pair_11 rfl 0 rfl rfl ?_
    refine g_getR (pc' := 15) (a := 1) dX10_pair_12 rfl (PLk.lf fX10_10) o0 rfl ?_
    refine g_iload_n (pc' := 16) dX10_pair_15 rfl 2 rfl rfl ?_
    refine g_callr (pc' := 19) dX10_pair_16 rfl mX10_135 (ev_X5_has (k := 1) (c := 2) (x1 := x2) (σ := σ) sf1 (d := d + 5)) o1 rfl (rm_ok (by omega) (by decide)) ⟨rfl, rfl⟩ ⟨Nat.zero_le _, Nat.zero_le _⟩ rfl rfl (Nat.le_of_ble_eq_true rfl) ?_
    refine g_ifb_ne (pc' := 22) (tgt := 25) dX10_pair_19 rfl (by decide) (fun (c2 : (rX5_has 1 2 x2 σ) = true) => ?_) (fun (c2 : (rX5_has 1 2 x2 σ) = false) => ?_)
    · obtain ⟨q1, h1⟩ := has_t hz hn c1
      obtain ⟨q2, h2⟩ := has_t hz hn c2
      refine g_aload_n (pc' := 26) dX10_pair_25 rfl 0 rfl rfl ?_
      refine g_getR (pc' := 29) (a := 51) dX10_pair_26 rfl (PLk.lf fX10_40) o0 rfl ?_
      refine g_aload_n (pc' := 30) dX10_pair_29 rfl 0 rfl rfl ?_
      refine g_getR (pc' := 33) (a := 1) dX10_pair_30 rfl (PLk.lf fX10_10) o0 rfl ?_
      refine g_callv (pc' := 36) dX10_pair_33 rfl mX10_110 (ev_X2_lookAround (n := n) (σ := σ) hz hn (d := d)) o51 rfl (rm_ok (by omega) (by decide)) ⟨rfl, rfl⟩ ⟨Nat.zero_le _, Nat.zero_le _⟩ rfl rfl (Nat.le_of_ble_eq_true rfl) ?_
      refine g_iload_n (pc' := 37) dX10_pair_36 rfl 3 rfl rfl ?_
      by_cases c3 : (x3 : Int32) = 0
      · refine g_tabIn (tgt := 64) 0 dX10_pair_37 c3 (by decide) (by decide) rfl (by decide) ?_
        refine g_aload_n (pc' := 65) dX10_pair_64 rfl 0 rfl rfl ?_
        refine g_getR (pc' := 68) (a := 51) dX10_pair_65 rfl (PLk.lf fX10_40) o0 rfl ?_
        refine g_iload_n (pc' := 69) dX10_pair_68 rfl 1 rfl rfl ?_
        refine g_iload_n (pc' := 70) dX10_pair_69 rfl 2 rfl rfl ?_
        refine g_callr (pc' := 73) dX10_pair_70 rfl mX10_139 (ev_X2_areAlike (s := (x1.toNatClampNeg)) (u := (x2.toNatClampNeg)) (x1 := x1) (x2 := x2) (σ := laR n σ) q1 (by omega) q2 (by omega) (laR_w hw _ (by omega)) (laR_w hw _ (by omega)) (d := d + 2)) o51 rfl (rm_ok (by omega) (by decide)) ⟨rfl, rfl⟩ ⟨Nat.zero_le _, Nat.zero_le _⟩ rfl rfl (Nat.le_of_ble_eq_true rfl) ?_
        refine g_ifb_eq (pc' := 76) (tgt := 80) dX10_pair_73 rfl (by decide) (fun (c4 : (rX2_areAlike (x1.toNatClampNeg) (x2.toNatClampNeg) x1 x2 (laR n σ)) = false) => ?_) (fun (c4 : (rX2_areAlike (x1.toNatClampNeg) (x2.toNatClampNeg) x1 x2 (laR n σ)) = true) => ?_)
        · refine g_iconst (pc' := 81) (v := 0) dX10_pair_80 rfl (by decide) ?_
          exact g_iret dX10_pair_81 rfl ⟨rfl, rfl⟩ (by simp only [rX10_pair, sX10_pair, if_pos c1, if_pos c2, if_pos c3, if_neg (bf c4), bI_t, bI_f])
        · refine g_iconst (pc' := 77) (v := 1) dX10_pair_76 rfl (by decide) ?_
          refine g_goto (tgt := 81) dX10_pair_77 (by decide) ?_
          exact g_iret dX10_pair_81 rfl ⟨rfl, rfl⟩ (by simp only [rX10_pair, sX10_pair, if_pos c1, if_pos c2, if_pos c3, if_pos c4, bI_t, bI_f])
      by_cases c5 : (x3 : Int32) = 1
      · refine g_tabIn (tgt := 82) 1 dX10_pair_37 c5 (by decide) (by decide) rfl (by decide) ?_
        refine g_aload_n (pc' := 83) dX10_pair_82 rfl 0 rfl rfl ?_
        refine g_getR (pc' := 86) (a := 51) dX10_pair_83 rfl (PLk.lf fX10_40) o0 rfl ?_
        refine g_iload_n (pc' := 87) dX10_pair_86 rfl 1 rfl rfl ?_
        refine g_iload_n (pc' := 88) dX10_pair_87 rfl 2 rfl rfl ?_
        refine g_callr (pc' := 91) dX10_pair_88 rfl mX10_262 (ev_X2_goTogether (s := (x1.toNatClampNeg)) (u := (x2.toNatClampNeg)) (x1 := x1) (x2 := x2) (σ := laR n σ) q1 (by omega) q2 (by omega) (d := d + 3)) o51 rfl (rm_ok (by omega) (by decide)) ⟨rfl, rfl⟩ ⟨Nat.zero_le _, Nat.zero_le _⟩ rfl rfl (Nat.le_of_ble_eq_true rfl) ?_
        refine g_ifb_eq (pc' := 94) (tgt := 98) dX10_pair_91 rfl (by decide) (fun (c6 : (rX2_goTogether (x1.toNatClampNeg) (x2.toNatClampNeg) x1 x2 (laR n σ)) = false) => ?_) (fun (c6 : (rX2_goTogether (x1.toNatClampNeg) (x2.toNatClampNeg) x1 x2 (laR n σ)) = true) => ?_)
        · refine g_iconst (pc' := 99) (v := 0) dX10_pair_98 rfl (by decide) ?_
          exact g_iret dX10_pair_99 rfl ⟨rfl, rfl⟩ (by simp only [rX10_pair, sX10_pair, if_pos c1, if_pos c2, if_neg c3, if_pos c5, if_neg (bf c6), bI_t, bI_f])
        · refine g_iconst (pc' := 95) (v := 1) dX10_pair_94 rfl (by decide) ?_
          refine g_goto (tgt := 99) dX10_pair_95 (by decide) ?_
          exact g_iret dX10_pair_99 rfl ⟨rfl, rfl⟩ (by simp only [rX10_pair, sX10_pair, if_pos c1, if_pos c2, if_neg c3, if_pos c5, if_pos c6, bI_t, bI_f])
      by_cases c7 : (x3 : Int32) = 2
      · refine g_tabIn (tgt := 100) 2 dX10_pair_37 c7 (by decide) (by decide) rfl (by decide) ?_
        refine g_aload_n (pc' := 101) dX10_pair_100 rfl 0 rfl rfl ?_
        refine g_getR (pc' := 104) (a := 51) dX10_pair_101 rfl (PLk.lf fX10_40) o0 rfl ?_
        refine g_iload_n (pc' := 105) dX10_pair_104 rfl 1 rfl rfl ?_
        refine g_iload_n (pc' := 106) dX10_pair_105 rfl 2 rfl rfl ?_
        refine g_callr (pc' := 109) dX10_pair_106 rfl mX10_265 (ev_X2_begins (x1 := x1) (x2 := x2) (s := (x1.toNatClampNeg)) (u := (x2.toNatClampNeg)) (σ := laR n σ) q1 (by omega) q2 (by omega) (d := d + 2)) o51 rfl (rm_ok (by omega) (by decide)) ⟨rfl, rfl⟩ ⟨Nat.zero_le _, Nat.zero_le _⟩ rfl rfl (Nat.le_of_ble_eq_true rfl) ?_
        exact g_iret dX10_pair_109 rfl ⟨rfl, rfl⟩ (by simp only [rX10_pair, sX10_pair, if_pos c1, if_pos c2, if_neg c3, if_neg c5, if_pos c7, bI_t, bI_f])
      refine g_tabOut (tgt := 110) dX10_pair_37 (by have hh := And.intro trivial trivial; have hh0 := lv_neT c3 (a := 0) (by decide); have hh1 := lv_neT c5 (a := 1) (by decide); have hh2 := lv_neT c7 (a := 2) (by decide); omega) (by decide) ?_
      refine g_ldc (pc' := 112) dX10_pair_110 rfl kX10_68 ?_
      exact g_iret dX10_pair_112 rfl ⟨rfl, rfl⟩ (by simp only [rX10_pair, sX10_pair, if_pos c1, if_pos c2, if_neg c3, if_neg c5, if_neg c7, bI_t, bI_f])
    · refine g_ldc (pc' := 24) dX10_pair_22 rfl kX10_146 ?_
      exact g_iret dX10_pair_24 rfl ⟨rfl, rfl⟩ (by simp only [rX10_pair, sX10_pair, if_pos c1, if_neg (bf c2), bI_t, bI_f])
