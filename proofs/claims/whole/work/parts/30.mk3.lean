def sz (σ : Sg) (k : Nat) : Nat := (σ.1 k 1).toNatClampNeg
def SzOk (σ : Sg) (k : Nat) : Prop := σ.1 k 1 = nI (sz σ k) ∧ sz σ k ≤ 12
def fwF (σ : Sg) (bl : Nat) : Nat → Nat → Int32
  | 0, _ => -1
  | m + 1, i => if rX5_has 1 2 (rX0_one bl (nI i) σ) σ = true then (if rX5_has 1 2 (rX0_other bl (nI i) σ) σ = true then (if bI (rX2_areAlike (rX0_one bl (nI i) σ).toNatClampNeg (rX0_other bl (nI i) σ).toNatClampNeg (rX0_one bl (nI i) σ) (rX0_other bl (nI i) σ) σ) = bI (rX0_saidAlike bl (nI i) σ) then fwF σ bl m (i + 1) else nI i) else nI i) else nI i
set_option maxRecDepth 100000 in
set_option maxHeartbeats 4000000 in
theorem lp_fw {l : Launch} {b : Nat} {cy : Nat → ClassId} {D : va_G} {d : Nat}   {n bl : Nat} {σ : Sg}  (hz : σ.1 1 1 = nI n) (hn : n ≤ 12) (hw : WAll σ) (hb : σ.1 47 3 = nI bl) (hbl : bl ≤ 20) : ∀ (m : Nat) (i : Nat), i + m = bl → Gs l b cy D (d + 4) yX10_firstWrong cX10_firstWrong (Option.some Jvm.ClassFile.FieldType.int) 5 (some (.int (fwF σ bl m i))) σ 2 [(0, .ref (b + 0)), (1, .int (nI i))] [] σ := by
  intro m
  induction m with
  | zero =>
    intro i hi
    refine g_iload_n (pc' := 3) dX10_firstWrong_2 rfl 1 rfl rfl ?_
    refine g_aload_n (pc' := 4) dX10_firstWrong_3 rfl 0 rfl rfl ?_
    refine g_getR (pc' := 7) (a := 47) dX10_firstWrong_4 rfl (PLk.lf fX10_33) o0 rfl ?_
    refine g_callr (pc' := 10) dX10_firstWrong_7 rfl mX10_124 (ev_X0_length  (σ := σ)  (d := d + 3)) o47 rfl (rm_ok (by omega) (by decide)) ⟨rfl, rfl⟩ ⟨Nat.zero_le _, Nat.zero_le _⟩ rfl rfl (Nat.le_of_ble_eq_true rfl) ?_
    refine g_icmp_ge (pc' := 13) (tgt := 93) dX10_firstWrong_10 rfl (by decide) (fun (c1 : (rX0_length σ : Int32) ≤ (nI i)) => ?_) (fun (c1 : ¬ (rX0_length σ : Int32) ≤ (nI i)) => ?_)
    · refine g_iconst (pc' := 94) (v := -1) dX10_firstWrong_93 rfl (by decide) ?_
      exact g_iret dX10_firstWrong_94 rfl ⟨rfl, rfl⟩ rfl
    · exact absurd (show rX0_length σ ≤ nI i from by unfold rX0_length; rw [hb]; exact (nI_leI (by omega) (by omega)).mpr (by omega)) c1
  | succ m ih =>
    intro i hi
    refine g_iload_n (pc' := 3) dX10_firstWrong_2 rfl 1 rfl rfl ?_
    refine g_aload_n (pc' := 4) dX10_firstWrong_3 rfl 0 rfl rfl ?_
    refine g_getR (pc' := 7) (a := 47) dX10_firstWrong_4 rfl (PLk.lf fX10_33) o0 rfl ?_
    refine g_callr (pc' := 10) dX10_firstWrong_7 rfl mX10_124 (ev_X0_length  (σ := σ)  (d := d + 3)) o47 rfl (rm_ok (by omega) (by decide)) ⟨rfl, rfl⟩ ⟨Nat.zero_le _, Nat.zero_le _⟩ rfl rfl (Nat.le_of_ble_eq_true rfl) ?_
    refine g_icmp_ge (pc' := 13) (tgt := 93) dX10_firstWrong_10 rfl (by decide) (fun (c1 : (rX0_length σ : Int32) ≤ (nI i)) => ?_) (fun (c1 : ¬ (rX0_length σ : Int32) ≤ (nI i)) => ?_)
    · exact absurd (nle (a := bl) (c := i) c1 hb rfl (by omega) (by omega)) (by omega)
    · refine g_aload_n (pc' := 14) dX10_firstWrong_13 rfl 0 rfl rfl ?_
      refine g_getR (pc' := 17) (a := 47) dX10_firstWrong_14 rfl (PLk.lf fX10_33) o0 rfl ?_
      refine g_iload_n (pc' := 18) dX10_firstWrong_17 rfl 1 rfl rfl ?_
      refine g_callr (pc' := 21) dX10_firstWrong_18 rfl mX10_129 (ev_X0_one (n := bl) (x1 := nI i) (σ := σ) hb hbl (d := d + 3)) o47 rfl (rm_ok (by omega) (by decide)) ⟨rfl, rfl⟩ ⟨Nat.zero_le _, Nat.zero_le _⟩ rfl rfl (Nat.le_of_ble_eq_true rfl) ?_
      refine g_istore_n (pc' := 22) (j := 2) (lv' := [(2, .int (rX0_one bl (nI i) σ)), (0, .ref (b + 0)), (1, .int (nI i))]) dX10_firstWrong_21 rfl rfl (by decide) rfl ?_
      refine g_aload_n (pc' := 23) dX10_firstWrong_22 rfl 1 rfl rfl ?_
      refine g_getR (pc' := 26) (a := 47) dX10_firstWrong_23 rfl (PLk.lf fX10_33) o0 rfl ?_
      refine g_iload_n (pc' := 27) dX10_firstWrong_26 rfl 2 rfl rfl ?_
      refine g_callr (pc' := 30) dX10_firstWrong_27 rfl mX10_133 (ev_X0_other (n := bl) (x1 := nI i) (σ := σ) hb hbl (d := d + 3)) o47 rfl (rm_ok (by omega) (by decide)) ⟨rfl, rfl⟩ ⟨Nat.zero_le _, Nat.zero_le _⟩ rfl rfl (Nat.le_of_ble_eq_true rfl) ?_
      refine g_istore_n (pc' := 31) (j := 3) (lv' := [(3, .int (rX0_other bl (nI i) σ)), (2, .int (rX0_one bl (nI i) σ)), (0, .ref (b + 0)), (1, .int (nI i))]) dX10_firstWrong_30 rfl rfl (by decide) rfl ?_
      refine g_aload_n (pc' := 32) dX10_firstWrong_31 rfl 2 rfl rfl ?_
      refine g_getR (pc' := 35) (a := 1) dX10_firstWrong_32 rfl (PLk.lf fX10_10) o0 rfl ?_
      refine g_iload_n (pc' := 36) dX10_firstWrong_35 rfl 1 rfl rfl ?_
      refine g_callr (pc' := 39) dX10_firstWrong_36 rfl mX10_136 (ev_X5_has (k := 1) (c := 2) (x1 := rX0_one bl (nI i) σ) (σ := σ) sf1 (d := d + 3)) o1 rfl (rm_ok (by omega) (by decide)) ⟨rfl, rfl⟩ ⟨Nat.zero_le _, Nat.zero_le _⟩ rfl rfl (Nat.le_of_ble_eq_true rfl) ?_
      refine g_ifb_eq (pc' := 42) (tgt := 57) dX10_firstWrong_39 rfl (by decide) (fun (c2 : (rX5_has 1 2 (rX0_one bl (nI i) σ) σ) = false) => ?_) (fun (c2 : (rX5_has 1 2 (rX0_one bl (nI i) σ) σ) = true) => ?_)
      · refine g_iconst (pc' := 58) (v := 0) dX10_firstWrong_57 rfl (by decide) ?_
        refine g_istore (pc' := 60) (j := 4) (lv' := [(4, .int (0)), (3, .int (rX0_other bl (nI i) σ)), (2, .int (rX0_one bl (nI i) σ)), (0, .ref (b + 0)), (1, .int (nI i))]) dX10_firstWrong_58 rfl (by decide) rfl ?_
        refine g_iload (pc' := 62) dX10_firstWrong_60 rfl 0 rfl ?_
        refine g_if_eq (pc' := 65) (tgt := 85) dX10_firstWrong_62 rfl (by decide) (fun _ => ?_) (fun z => absurd z (by decide))
        refine g_iload_n (pc' := 86) dX10_firstWrong_85 rfl 4 rfl rfl ?_
        exact g_iret dX10_firstWrong_86 rfl ⟨rfl, rfl⟩ (by rw [fwF, if_neg (bf c2)])
      · refine g_aload_n (pc' := 43) dX10_firstWrong_42 rfl 2 rfl rfl ?_
        refine g_getR (pc' := 46) (a := 1) dX10_firstWrong_43 rfl (PLk.lf fX10_10) o0 rfl ?_
        refine g_iload_n (pc' := 47) dX10_firstWrong_46 rfl 0 rfl rfl ?_
        refine g_callr (pc' := 50) dX10_firstWrong_47 rfl mX10_136 (ev_X5_has (k := 1) (c := 2) (x1 := rX0_other bl (nI i) σ) (σ := σ) sf1 (d := d + 3)) o1 rfl (rm_ok (by omega) (by decide)) ⟨rfl, rfl⟩ ⟨Nat.zero_le _, Nat.zero_le _⟩ rfl rfl (Nat.le_of_ble_eq_true rfl) ?_
        refine g_ifb_eq (pc' := 53) (tgt := 57) dX10_firstWrong_50 rfl (by decide) (fun (c4 : (rX5_has 1 2 (rX0_other bl (nI i) σ) σ) = false) => ?_) (fun (c4 : (rX5_has 1 2 (rX0_other bl (nI i) σ) σ) = true) => ?_)
        · refine g_iconst (pc' := 58) (v := 0) dX10_firstWrong_57 rfl (by decide) ?_
          refine g_istore (pc' := 60) (j := 4) (lv' := [(4, .int (0)), (3, .int (rX0_other bl (nI i) σ)), (2, .int (rX0_one bl (nI i) σ)), (0, .ref (b + 0)), (1, .int (nI i))]) dX10_firstWrong_58 rfl (by decide) rfl ?_
          refine g_iload (pc' := 62) dX10_firstWrong_60 rfl 0 rfl ?_
          refine g_if_eq (pc' := 65) (tgt := 85) dX10_firstWrong_62 rfl (by decide) (fun _ => ?_) (fun z => absurd z (by decide))
          refine g_iload_n (pc' := 86) dX10_firstWrong_85 rfl 4 rfl rfl ?_
          exact g_iret dX10_firstWrong_86 rfl ⟨rfl, rfl⟩ (by rw [fwF, if_pos c2, if_neg (bf c4)])
        · refine g_iconst (pc' := 54) (v := 1) dX10_firstWrong_53 rfl (by decide) ?_
          refine g_goto (tgt := 58) dX10_firstWrong_54 (by decide) ?_
          refine g_istore (pc' := 60) (j := 4) (lv' := [(4, .int (1)), (3, .int (rX0_other bl (nI i) σ)), (2, .int (rX0_one bl (nI i) σ)), (0, .ref (b + 0)), (1, .int (nI i))]) dX10_firstWrong_58 rfl (by decide) rfl ?_
          refine g_iload (pc' := 62) dX10_firstWrong_60 rfl 0 rfl ?_
          refine g_if_eq (pc' := 65) (tgt := 85) dX10_firstWrong_62 rfl (by decide) (fun z => absurd z (by decide)) (fun _ => ?_)
          obtain ⟨q1, h1⟩ := has_t hz hn c2
          obtain ⟨q2, h2⟩ := has_t hz hn c4
          refine g_aload_n (pc' := 66) dX10_firstWrong_65 rfl 3 rfl rfl ?_
          refine g_getR (pc' := 69) (a := 51) dX10_firstWrong_66 rfl (PLk.lf fX10_42) o0 rfl ?_
          refine g_iload_n (pc' := 70) dX10_firstWrong_69 rfl 2 rfl rfl ?_
          refine g_iload_n (pc' := 71) dX10_firstWrong_70 rfl 1 rfl rfl ?_
          refine g_callr (pc' := 74) dX10_firstWrong_71 rfl mX10_140 (ev_X2_areAlike (s := (rX0_one bl (nI i) σ).toNatClampNeg) (u := (rX0_other bl (nI i) σ).toNatClampNeg) (x1 := rX0_one bl (nI i) σ) (x2 := rX0_other bl (nI i) σ) (σ := σ) q1 (by omega) q2 (by omega) (hw _ (by omega)) (hw _ (by omega)) (d := d)) o51 rfl (rm_ok (by omega) (by decide)) ⟨rfl, rfl⟩ ⟨Nat.zero_le _, Nat.zero_le _⟩ rfl rfl (Nat.le_of_ble_eq_true rfl) ?_
          refine g_aload_n (pc' := 75) dX10_firstWrong_74 rfl 3 rfl rfl ?_
          refine g_getR (pc' := 78) (a := 47) dX10_firstWrong_75 rfl (PLk.lf fX10_33) o0 rfl ?_
          refine g_iload_n (pc' := 79) dX10_firstWrong_78 rfl 4 rfl rfl ?_
          refine g_callr (pc' := 82) dX10_firstWrong_79 rfl mX10_144 (ev_X0_saidAlike (n := bl) (x1 := nI i) (σ := σ) hb hbl (d := d + 3)) o47 rfl (rm_ok (by omega) (by decide)) ⟨rfl, rfl⟩ ⟨Nat.zero_le _, Nat.zero_le _⟩ rfl rfl (Nat.le_of_ble_eq_true rfl) ?_
          refine g_icmp_eq (pc' := 85) (tgt := 87) dX10_firstWrong_82 rfl (by decide) (fun (c7 : (bI (rX2_areAlike ((rX0_one bl (nI i) σ).toNatClampNeg) ((rX0_other bl (nI i) σ).toNatClampNeg) (rX0_one bl (nI i) σ) (rX0_other bl (nI i) σ) σ) : Int32) = (bI (rX0_saidAlike bl (nI i) σ))) => ?_) (fun (c7 : ¬ (bI (rX2_areAlike ((rX0_one bl (nI i) σ).toNatClampNeg) ((rX0_other bl (nI i) σ).toNatClampNeg) (rX0_one bl (nI i) σ) (rX0_other bl (nI i) σ) σ) : Int32) = (bI (rX0_saidAlike bl (nI i) σ))) => ?_)
          · refine g_iinc (pc' := 90) (v := nI (i + 1)) (lv' := [(1, .int (nI (i + 1))), (4, .int (1)), (3, .int (rX0_other bl (nI i) σ)), (2, .int (rX0_one bl (nI i) σ)), (0, .ref (b + 0))]) dX10_firstWrong_87 rfl 4 rfl (nI_1 i) (by decide) rfl ?_
            refine g_goto (tgt := 2) dX10_firstWrong_90 (by decide) ?_
            rw [show fwF σ bl (m + 1) i = fwF σ bl m (i + 1) by rw [fwF, if_pos c2, if_pos c4, if_pos c7]]
            refine g_sub [4, 0] rfl ?_
            exact ih (i + 1) (by omega)
          · refine g_iload_n (pc' := 86) dX10_firstWrong_85 rfl 4 rfl rfl ?_
            exact g_iret dX10_firstWrong_86 rfl ⟨rfl, rfl⟩ (by rw [fwF, if_pos c2, if_pos c4, if_neg c7])
set_option maxRecDepth 100000 in
set_option maxHeartbeats 4000000 in
theorem ev_X10_firstWrong {l : Launch} {b : Nat} {cy : Nat → ClassId} {D : va_G} {d : Nat}   {n : Nat} {bl : Nat} {σ : Sg}  (hz : σ.1 1 1 = nI n) (hn : n ≤ 12) (hw : WAll σ) (hb : σ.1 47 3 = nI bl) (hbl : bl ≤ 20) : Es l b cy D (d + 4) yX10_firstWrong cX10_firstWrong (Option.some Jvm.ClassFile.FieldType.int) 5 [.ref (b + 0)] σ (some (.int (fwF σ bl bl 0))) σ := by
  refine Ev.of (by decide) (Nat.le_of_ble_eq_true rfl) rfl ?_
  refine g_iconst (pc' := 1) (v := 0) dX10_firstWrong_0 rfl (by decide) ?_
  refine g_istore_n (pc' := 2) (j := 1) (lv' := [(1, .int (0)), (0, .ref (b + 0))]) dX10_firstWrong_1 rfl rfl (by decide) rfl ?_
  refine g_sub [1, 0] rfl ?_
  exact lp_fw hz hn hw hb hbl bl 0 (by omega)
def rX10_told (n : Nat) (bl : Nat) (x1 : Int32) (σ : Sg) : Int32 := if (x1 : Int32) = 0 then rX5_size 1 2 σ else if (x1 : Int32) = 1 then rX7_length σ else if (x1 : Int32) = 2 then cfaF (laF n 0 σ) n n 0 0 else if (x1 : Int32) = 3 then gfaF (laF n 0 σ) n n 0 0 else if (x1 : Int32) = 4 then (ctwF n 0 0 (laF n 0 σ)).1 else if (x1 : Int32) = 5 then rX0_length σ else if (x1 : Int32) = 6 then fwF (laF n 0 σ) bl bl 0 else if (x1 : Int32) = 7 then rX4_length σ else -1000000002
def sX10_told (n : Nat) (bl : Nat) (x1 : Int32) (σ : Sg) : Sg := if (x1 : Int32) = 0 then σ else if (x1 : Int32) = 1 then σ else if (x1 : Int32) = 2 then laF n 0 σ else if (x1 : Int32) = 3 then laF n 0 σ else if (x1 : Int32) = 4 then (ctwF n 0 0 (laF n 0 σ)).2 else if (x1 : Int32) = 5 then σ else if (x1 : Int32) = 6 then laF n 0 σ else if (x1 : Int32) = 7 then σ else σ
set_option maxRecDepth 100000 in
set_option maxHeartbeats 4000000 in
theorem ev_X10_told {l : Launch} {b : Nat} {cy : Nat → ClassId} {D : va_G} {d : Nat} {n : Nat} {bl : Nat} {x1 : Int32} {σ : Sg}  (hz : σ.1 1 1 = nI n) (hn : n ≤ 12) (hw : WAll σ) (h5 : WOk σ 55) (hb : σ.1 47 3 = nI bl) (hbl : bl ≤ 20) : Es l b cy D (d + 7) yX10_told cX10_told (Option.some Jvm.ClassFile.FieldType.int) 2 [.ref (b + 0), .int (x1)] σ (some (.int (rX10_told n bl x1 σ))) (sX10_told n bl x1 σ) := by
  refine Ev.of (by decide) (Nat.le_of_ble_eq_true rfl) rfl ?_
  refine g_iload_n (pc' := 1) dX10_told_0 rfl 1 rfl rfl ?_
  by_cases c1 : (x1 : Int32) = 0
  · refine g_tabIn (tgt := 48) 0 dX10_told_1 c1 (by decide) (by decide) rfl (by decide) ?_
    refine g_aload_n (pc' := 49) dX10_told_48 rfl 0 rfl rfl ?_
    refine g_getR (pc' := 52) (a := 1) dX10_told_49 rfl (PLk.lf fX10_10) o0 rfl ?_
    refine g_callr (pc' := 55) dX10_told_52 rfl mX10_109 (ev_X5_size (k := 1) (c := 2) (σ := σ) sf1 (d := d + 6)) o1 rfl (rm_ok (by omega) (by decide)) ⟨rfl, rfl⟩ ⟨Nat.zero_le _, Nat.zero_le _⟩ rfl rfl (Nat.le_of_ble_eq_true rfl) ?_
    exact g_iret dX10_told_55 rfl ⟨rfl, rfl⟩ (by simp only [rX10_told, sX10_told, if_pos c1, bI_t, bI_f])
  by_cases c2 : (x1 : Int32) = 1
  · refine g_tabIn (tgt := 56) 1 dX10_told_1 c2 (by decide) (by decide) rfl (by decide) ?_
    refine g_aload_n (pc' := 57) dX10_told_56 rfl 0 rfl rfl ?_
    refine g_getR (pc' := 60) (a := 45) dX10_told_57 rfl (PLk.lf fX10_26) o0 rfl ?_
    refine g_callr (pc' := 63) dX10_told_60 rfl mX10_80 (ev_X7_length  (σ := σ)  (d := d + 6)) o45 rfl (rm_ok (by omega) (by decide)) ⟨rfl, rfl⟩ ⟨Nat.zero_le _, Nat.zero_le _⟩ rfl rfl (Nat.le_of_ble_eq_true rfl) ?_
    exact g_iret dX10_told_63 rfl ⟨rfl, rfl⟩ (by simp only [rX10_told, sX10_told, if_neg c1, if_pos c2, bI_t, bI_f])
  by_cases c3 : (x1 : Int32) = 2
  · refine g_tabIn (tgt := 64) 2 dX10_told_1 c3 (by decide) (by decide) rfl (by decide) ?_
    refine g_aload_n (pc' := 65) dX10_told_64 rfl 0 rfl rfl ?_
    refine g_getR (pc' := 68) (a := 51) dX10_told_65 rfl (PLk.lf fX10_42) o0 rfl ?_
    refine g_callv (pc' := 71) dX10_told_68 rfl mX10_112 (ev_X2_lookAround (n := n) (σ := σ) hz hn (d := d + 1)) o51 rfl (rm_ok (by omega) (by decide)) ⟨rfl, rfl⟩ ⟨Nat.zero_le _, Nat.zero_le _⟩ rfl rfl (Nat.le_of_ble_eq_true rfl) ?_
    refine g_aload_n (pc' := 72) dX10_told_71 rfl 0 rfl rfl ?_
    refine g_getR (pc' := 75) (a := 51) dX10_told_72 rfl (PLk.lf fX10_42) o0 rfl ?_
    refine g_callr (pc' := 78) dX10_told_75 rfl mX10_115 (ev_X2_countFamilies (n := n) (σ := laF n 0 σ) (by rw [laF_1 (by omega)]; exact hz) hn (laF_w _ _ _ hw) (d := d + 1)) o51 rfl (rm_ok (by omega) (by decide)) ⟨rfl, rfl⟩ ⟨Nat.zero_le _, Nat.zero_le _⟩ rfl rfl (Nat.le_of_ble_eq_true rfl) ?_
    exact g_iret dX10_told_78 rfl ⟨rfl, rfl⟩ (by simp only [rX10_told, sX10_told, if_neg c1, if_neg c2, if_pos c3, bI_t, bI_f])
  by_cases c4 : (x1 : Int32) = 3
  · refine g_tabIn (tgt := 79) 3 dX10_told_1 c4 (by decide) (by decide) rfl (by decide) ?_
    refine g_aload_n (pc' := 80) dX10_told_79 rfl 0 rfl rfl ?_
    refine g_getR (pc' := 83) (a := 51) dX10_told_80 rfl (PLk.lf fX10_42) o0 rfl ?_
    refine g_callv (pc' := 86) dX10_told_83 rfl mX10_112 (ev_X2_lookAround (n := n) (σ := σ) hz hn (d := d + 1)) o51 rfl (rm_ok (by omega) (by decide)) ⟨rfl, rfl⟩ ⟨Nat.zero_le _, Nat.zero_le _⟩ rfl rfl (Nat.le_of_ble_eq_true rfl) ?_
    refine g_aload_n (pc' := 87) dX10_told_86 rfl 0 rfl rfl ?_
    refine g_getR (pc' := 90) (a := 51) dX10_told_87 rfl (PLk.lf fX10_42) o0 rfl ?_
    refine g_callr (pc' := 93) dX10_told_90 rfl mX10_118 (ev_X2_greatestFamily (n := n) (σ := laF n 0 σ) (by rw [laF_1 (by omega)]; exact hz) hn (laF_w _ _ _ hw) (d := d + 1)) o51 rfl (rm_ok (by omega) (by decide)) ⟨rfl, rfl⟩ ⟨Nat.zero_le _, Nat.zero_le _⟩ rfl rfl (Nat.le_of_ble_eq_true rfl) ?_
    exact g_iret dX10_told_93 rfl ⟨rfl, rfl⟩ (by simp only [rX10_told, sX10_told, if_neg c1, if_neg c2, if_neg c3, if_pos c4, bI_t, bI_f])
  by_cases c5 : (x1 : Int32) = 4
  · refine g_tabIn (tgt := 94) 4 dX10_told_1 c5 (by decide) (by decide) rfl (by decide) ?_
    refine g_aload_n (pc' := 95) dX10_told_94 rfl 0 rfl rfl ?_
    refine g_getR (pc' := 98) (a := 51) dX10_told_95 rfl (PLk.lf fX10_42) o0 rfl ?_
    refine g_callv (pc' := 101) dX10_told_98 rfl mX10_112 (ev_X2_lookAround (n := n) (σ := σ) hz hn (d := d + 1)) o51 rfl (rm_ok (by omega) (by decide)) ⟨rfl, rfl⟩ ⟨Nat.zero_le _, Nat.zero_le _⟩ rfl rfl (Nat.le_of_ble_eq_true rfl) ?_
    refine g_aload_n (pc' := 102) dX10_told_101 rfl 0 rfl rfl ?_
    refine g_getR (pc' := 105) (a := 51) dX10_told_102 rfl (PLk.lf fX10_42) o0 rfl ?_
    refine g_callr (pc' := 108) dX10_told_105 rfl mX10_121 (ev_X2_countTwins (n := n) (σ := laF n 0 σ) (by rw [laF_1 (by omega)]; exact hz) hn (laF_w _ _ _ hw) (laF_x h5) (d := d)) o51 rfl (rm_ok (by omega) (by decide)) ⟨rfl, rfl⟩ ⟨Nat.zero_le _, Nat.zero_le _⟩ rfl rfl (Nat.le_of_ble_eq_true rfl) ?_
    exact g_iret dX10_told_108 rfl ⟨rfl, rfl⟩ (by simp only [rX10_told, sX10_told, if_neg c1, if_neg c2, if_neg c3, if_neg c4, if_pos c5, bI_t, bI_f])
  by_cases c6 : (x1 : Int32) = 5
  · refine g_tabIn (tgt := 109) 5 dX10_told_1 c6 (by decide) (by decide) rfl (by decide) ?_
    refine g_aload_n (pc' := 110) dX10_told_109 rfl 0 rfl rfl ?_
    refine g_getR (pc' := 113) (a := 47) dX10_told_110 rfl (PLk.lf fX10_33) o0 rfl ?_
    refine g_callr (pc' := 116) dX10_told_113 rfl mX10_124 (ev_X0_length  (σ := σ)  (d := d + 6)) o47 rfl (rm_ok (by omega) (by decide)) ⟨rfl, rfl⟩ ⟨Nat.zero_le _, Nat.zero_le _⟩ rfl rfl (Nat.le_of_ble_eq_true rfl) ?_
    exact g_iret dX10_told_116 rfl ⟨rfl, rfl⟩ (by simp only [rX10_told, sX10_told, if_neg c1, if_neg c2, if_neg c3, if_neg c4, if_neg c5, if_pos c6, bI_t, bI_f])
  by_cases c7 : (x1 : Int32) = 6
  · refine g_tabIn (tgt := 117) 6 dX10_told_1 c7 (by decide) (by decide) rfl (by decide) ?_
    refine g_aload_n (pc' := 118) dX10_told_117 rfl 0 rfl rfl ?_
    refine g_getR (pc' := 121) (a := 51) dX10_told_118 rfl (PLk.lf fX10_42) o0 rfl ?_
    refine g_callv (pc' := 124) dX10_told_121 rfl mX10_112 (ev_X2_lookAround (n := n) (σ := σ) hz hn (d := d + 1)) o51 rfl (rm_ok (by omega) (by decide)) ⟨rfl, rfl⟩ ⟨Nat.zero_le _, Nat.zero_le _⟩ rfl rfl (Nat.le_of_ble_eq_true rfl) ?_
    refine g_aload_n (pc' := 125) dX10_told_124 rfl 0 rfl rfl ?_
    refine g_callr (pc' := 128) dX10_told_125 rfl mX10_125 (ev_X10_firstWrong (n := n) (bl := bl) (σ := laF n 0 σ) (by rw [laF_1 (by omega)]; exact hz) hn (laF_w _ _ _ hw) (by rw [laF_1 (by omega)]; exact hb) hbl (d := d + 2)) o0 rfl (rm_ok (by omega) (by decide)) ⟨rfl, rfl⟩ ⟨Nat.zero_le _, Nat.zero_le _⟩ rfl rfl (Nat.le_of_ble_eq_true rfl) ?_
    exact g_iret dX10_told_128 rfl ⟨rfl, rfl⟩ (by simp only [rX10_told, sX10_told, if_neg c1, if_neg c2, if_neg c3, if_neg c4, if_neg c5, if_neg c6, if_pos c7, bI_t, bI_f])
  by_cases c8 : (x1 : Int32) = 7
  · refine g_tabIn (tgt := 129) 7 dX10_told_1 c8 (by decide) (by decide) rfl (by decide) ?_
    refine g_aload_n (pc' := 130) dX10_told_129 rfl 0 rfl rfl ?_
    refine g_getR (pc' := 133) (a := 3) dX10_told_130 rfl (PLk.lf fX10_19) o0 rfl ?_
    refine g_callr (pc' := 136) dX10_told_133 rfl mX10_128 (ev_X4_length  (σ := σ)  (d := d + 6)) o3 rfl (rm_ok (by omega) (by decide)) ⟨rfl, rfl⟩ ⟨Nat.zero_le _, Nat.zero_le _⟩ rfl rfl (Nat.le_of_ble_eq_true rfl) ?_
    exact g_iret dX10_told_136 rfl ⟨rfl, rfl⟩ (by simp only [rX10_told, sX10_told, if_neg c1, if_neg c2, if_neg c3, if_neg c4, if_neg c5, if_neg c6, if_neg c7, if_pos c8, bI_t, bI_f])
  refine g_tabOut (tgt := 137) dX10_told_1 (by have hh := And.intro trivial trivial; have hh0 := lv_neT c1 (a := 0) (by decide); have hh1 := lv_neT c2 (a := 1) (by decide); have hh2 := lv_neT c3 (a := 2) (by decide); have hh3 := lv_neT c4 (a := 3) (by decide); have hh4 := lv_neT c5 (a := 4) (by decide); have hh5 := lv_neT c6 (a := 5) (by decide); have hh6 := lv_neT c7 (a := 6) (by decide); have hh7 := lv_neT c8 (a := 7) (by decide); omega) (by decide) ?_
  refine g_ldc (pc' := 139) dX10_told_137 rfl kX10_70 ?_
  exact g_iret dX10_told_139 rfl ⟨rfl, rfl⟩ (by simp only [rX10_told, sX10_told, if_neg c1, if_neg c2, if_neg c3, if_neg c4, if_neg c5, if_neg c6, if_neg c7, if_neg c8, bI_t, bI_f])
def rX10_square (n : Nat) (x1 : Int32) (x2 : Int32) (σ : Sg) : Int32 := if (rX5_has 1 2 x1 σ) = true then if (x2 : Int32) = 0 then rX3_kind (66 + 7 * (x1.toNatClampNeg)) (66 + 7 * (x1.toNatClampNeg) + 1) (66 + 7 * (x1.toNatClampNeg) + 2) (66 + 7 * (x1.toNatClampNeg) + 3) (66 + 7 * (x1.toNatClampNeg) + 4) (66 + 7 * (x1.toNatClampNeg) + 5) (66 + 7 * (x1.toNatClampNeg) + 6) (laF n 0 σ) else if (x2 : Int32) = 1 then (rX3_trace (66 + 7 * (x1.toNatClampNeg)) (66 + 7 * (x1.toNatClampNeg) + 1) (66 + 7 * (x1.toNatClampNeg) + 2) (66 + 7 * (x1.toNatClampNeg) + 3) (66 + 7 * (x1.toNatClampNeg) + 4) (66 + 7 * (x1.toNatClampNeg) + 5) (66 + 7 * (x1.toNatClampNeg) + 6) (laF n 0 σ)) + 2000000 else if (x2 : Int32) = 2 then (rX3_sign (66 + 7 * (x1.toNatClampNeg)) (66 + 7 * (x1.toNatClampNeg) + 1) (66 + 7 * (x1.toNatClampNeg) + 2) (66 + 7 * (x1.toNatClampNeg) + 3) (66 + 7 * (x1.toNatClampNeg) + 4) (66 + 7 * (x1.toNatClampNeg) + 5) (66 + 7 * (x1.toNatClampNeg) + 6) (laF n 0 σ)) + 1 else if (x2 : Int32) = 3 then rX3_order (66 + 7 * (x1.toNatClampNeg)) (66 + 7 * (x1.toNatClampNeg) + 1) (66 + 7 * (x1.toNatClampNeg) + 2) (66 + 7 * (x1.toNatClampNeg) + 3) (66 + 7 * (x1.toNatClampNeg) + 4) (66 + 7 * (x1.toNatClampNeg) + 5) (66 + 7 * (x1.toNatClampNeg) + 6) (laF n 0 σ) else if (x2 : Int32) = 4 then if (rX3_kind (66 + 7 * (x1.toNatClampNeg)) (66 + 7 * (x1.toNatClampNeg) + 1) (66 + 7 * (x1.toNatClampNeg) + 2) (66 + 7 * (x1.toNatClampNeg) + 3) (66 + 7 * (x1.toNatClampNeg) + 4) (66 + 7 * (x1.toNatClampNeg) + 5) (66 + 7 * (x1.toNatClampNeg) + 6) (laF n 0 σ) : Int32) = 2 then (rX3_mark (66 + 7 * (x1.toNatClampNeg)) (66 + 7 * (x1.toNatClampNeg) + 1) (66 + 7 * (x1.toNatClampNeg) + 2) (66 + 7 * (x1.toNatClampNeg) + 3) (66 + 7 * (x1.toNatClampNeg) + 4) (66 + 7 * (x1.toNatClampNeg) + 5) (66 + 7 * (x1.toNatClampNeg) + 6) (laF n 0 σ)) + 3000000 else 0 else if (x2 : Int32) = 5 then rX8_count (66 + 7 * (x1.toNatClampNeg) + 2) (66 + 7 * (x1.toNatClampNeg) + 3) (66 + 7 * (x1.toNatClampNeg) + 4) (66 + 7 * (x1.toNatClampNeg) + 5) (66 + 7 * (x1.toNatClampNeg) + 6) (laF n 0 σ) else if (x2 : Int32) = 6 then nI (timesF ((laF n 0 σ).1 (66 + 7 * (x1.toNatClampNeg) + 3)) (cnt (laF n 0 σ) (66 + 7 * (x1.toNatClampNeg) + 2)) 21 2) else if (x2 : Int32) = 7 then if (rX2_isTwin (x1.toNatClampNeg) x1 (laF n 0 σ)) = true then 1 else 0 else if (x2 : Int32) = 8 then famF (laF n 0 σ) (x1.toNatClampNeg) n 0 0 else if (x2 : Int32) = 9 then if (rX2_isLikeMirrored (x1.toNatClampNeg) x1 (laF n 0 σ)) = true then 1 else 0 else if (x2 : Int32) = 10 then sumI ((laF n 0 σ).1 (66 + 7 * (x1.toNatClampNeg) + 3)) (cnt (laF n 0 σ) (66 + 7 * (x1.toNatClampNeg) + 2)) else -1000000002 else -1000000001
def sX10_square (n : Nat) (x1 : Int32) (x2 : Int32) (σ : Sg) : Sg := if (rX5_has 1 2 x1 σ) = true then if (x2 : Int32) = 0 then laF n 0 σ else if (x2 : Int32) = 1 then laF n 0 σ else if (x2 : Int32) = 2 then laF n 0 σ else if (x2 : Int32) = 3 then laF n 0 σ else if (x2 : Int32) = 4 then if (rX3_kind (66 + 7 * (x1.toNatClampNeg)) (66 + 7 * (x1.toNatClampNeg) + 1) (66 + 7 * (x1.toNatClampNeg) + 2) (66 + 7 * (x1.toNatClampNeg) + 3) (66 + 7 * (x1.toNatClampNeg) + 4) (66 + 7 * (x1.toNatClampNeg) + 5) (66 + 7 * (x1.toNatClampNeg) + 6) (laF n 0 σ) : Int32) = 2 then laF n 0 σ else laF n 0 σ else if (x2 : Int32) = 5 then laF n 0 σ else if (x2 : Int32) = 6 then laF n 0 σ else if (x2 : Int32) = 7 then if (rX2_isTwin (x1.toNatClampNeg) x1 (laF n 0 σ)) = true then sX2_isTwin (x1.toNatClampNeg) x1 (laF n 0 σ) else sX2_isTwin (x1.toNatClampNeg) x1 (laF n 0 σ) else if (x2 : Int32) = 8 then laF n 0 σ else if (x2 : Int32) = 9 then if (rX2_isLikeMirrored (x1.toNatClampNeg) x1 (laF n 0 σ)) = true then sX2_isLikeMirrored (x1.toNatClampNeg) x1 (laF n 0 σ) else sX2_isLikeMirrored (x1.toNatClampNeg) x1 (laF n 0 σ) else if (x2 : Int32) = 10 then laF n 0 σ else laF n 0 σ else σ
set_option maxRecDepth 100000 in
set_option maxHeartbeats 4000000 in
theorem ev_X10_square {l : Launch} {b : Nat} {cy : Nat → ClassId} {D : va_G} {d : Nat} {n : Nat} {x1 : Int32} {x2 : Int32} {σ : Sg}  (hz : σ.1 1 1 = nI n) (hn : n ≤ 12) (hw : WAll σ) (h5 : WOk σ 55) : Es l b cy D (d + 6) yX10_square cX10_square (Option.some Jvm.ClassFile.FieldType.int) 4 [.ref (b + 0), .int (x1), .int (x2)] σ (some (.int (rX10_square n x1 x2 σ))) (sX10_square n x1 x2 σ) := by
  refine Ev.of (by decide) (Nat.le_of_ble_eq_true rfl) rfl ?_
  refine g_aload_n (pc' := 1) dX10_square_0 rfl 0 rfl rfl ?_
  refine g_getR (pc' := 4) (a := 1) dX10_square_1 rfl (PLk.lf fX10_10) o0 rfl ?_
  refine g_iload_n (pc' := 5) dX10_square_4 rfl 1 rfl rfl ?_
  refine g_callr (pc' := 8) dX10_square_5 rfl mX10_136 (ev_X5_has (k := 1) (c := 2) (x1 := x1) (σ := σ) sf1 (d := d + 5)) o1 rfl (rm_ok (by omega) (by decide)) ⟨rfl, rfl⟩ ⟨Nat.zero_le _, Nat.zero_le _⟩ rfl rfl (Nat.le_of_ble_eq_true rfl) ?_
  refine g_ifb_ne (pc' := 11) (tgt := 14) dX10_square_8 rfl (by decide) (fun (c1 : (rX5_has 1 2 x1 σ) = true) => ?_) (fun (c1 : (rX5_has 1 2 x1 σ) = false) => ?_)
  · obtain ⟨q1, h1⟩ := has_t hz hn c1
    refine g_aload_n (pc' := 15) dX10_square_14 rfl 0 rfl rfl ?_
    refine g_getR (pc' := 18) (a := 51) dX10_square_15 rfl (PLk.lf fX10_42) o0 rfl ?_
    refine g_callv (pc' := 21) dX10_square_18 rfl mX10_112 (ev_X2_lookAround (n := n) (σ := σ) hz hn (d := d)) o51 rfl (rm_ok (by omega) (by decide)) ⟨rfl, rfl⟩ ⟨Nat.zero_le _, Nat.zero_le _⟩ rfl rfl (Nat.le_of_ble_eq_true rfl) ?_
    refine g_aload_n (pc' := 22) dX10_square_21 rfl 0 rfl rfl ?_
    refine g_getR (pc' := 25) (a := 51) dX10_square_22 rfl (PLk.lf fX10_42) o0 rfl ?_
    refine g_iload_n (pc' := 26) dX10_square_25 rfl 1 rfl rfl ?_
    refine g_callr (pc' := 29) dX10_square_26 rfl mX10_153 (ev_X2_kinOf (s := (x1.toNatClampNeg)) (x1 := x1) (σ := laF n 0 σ) q1 (show x1.toNatClampNeg < 12 by omega) (d := d + 5)) o51 rfl (rm_ok (by omega) (by decide)) ⟨rfl, rfl⟩ ⟨Nat.zero_le _, Nat.zero_le _⟩ rfl rfl (Nat.le_of_ble_eq_true rfl) ?_
    refine g_astore_n (pc' := 30) (j := 3) (lv' := [(3, .ref (b + (66 + 7 * (x1.toNatClampNeg)))), (0, .ref (b + 0)), (1, .int (x1)), (2, .int (x2))]) dX10_square_29 rfl rfl (by decide) rfl ?_
    refine g_iload_n (pc' := 31) dX10_square_30 rfl 3 rfl rfl ?_
    by_cases c2 : (x2 : Int32) = 0
    · refine g_tabIn (tgt := 88) 0 dX10_square_31 c2 (by decide) (by decide) rfl (by decide) ?_
      refine g_aload_n (pc' := 89) dX10_square_88 rfl 0 rfl rfl ?_
      refine g_callr (pc' := 92) dX10_square_89 rfl mX10_157 (ev_X3_kind (k := (66 + 7 * (x1.toNatClampNeg))) (s := (66 + 7 * (x1.toNatClampNeg) + 1)) (h := (66 + 7 * (x1.toNatClampNeg) + 2)) (r := (66 + 7 * (x1.toNatClampNeg) + 3)) (e := (66 + 7 * (x1.toNatClampNeg) + 4)) (w := (66 + 7 * (x1.toNatClampNeg) + 5)) (p := (66 + 7 * (x1.toNatClampNeg) + 6)) (σ := laF n 0 σ) (kiN _ (show x1.toNatClampNeg < 12 by omega)) (d := d + 5)) (kiN _ (show x1.toNatClampNeg < 12 by omega)).1 rfl (rm_ok (by omega) (by decide)) ⟨rfl, rfl⟩ ⟨Nat.zero_le _, Nat.zero_le _⟩ rfl rfl (Nat.le_of_ble_eq_true rfl) ?_
      exact g_iret dX10_square_92 rfl ⟨rfl, rfl⟩ (by simp only [rX10_square, sX10_square, if_pos c1, if_pos c2, bI_t, bI_f])
    by_cases c3 : (x2 : Int32) = 1
    · refine g_tabIn (tgt := 93) 1 dX10_square_31 c3 (by decide) (by decide) rfl (by decide) ?_
      refine g_aload_n (pc' := 94) dX10_square_93 rfl 0 rfl rfl ?_
      refine g_callr (pc' := 97) dX10_square_94 rfl mX10_162 (ev_X3_trace (k := (66 + 7 * (x1.toNatClampNeg))) (s := (66 + 7 * (x1.toNatClampNeg) + 1)) (h := (66 + 7 * (x1.toNatClampNeg) + 2)) (r := (66 + 7 * (x1.toNatClampNeg) + 3)) (e := (66 + 7 * (x1.toNatClampNeg) + 4)) (w := (66 + 7 * (x1.toNatClampNeg) + 5)) (p := (66 + 7 * (x1.toNatClampNeg) + 6)) (σ := laF n 0 σ) (kiN _ (show x1.toNatClampNeg < 12 by omega)) (d := d + 4)) (kiN _ (show x1.toNatClampNeg < 12 by omega)).1 rfl (rm_ok (by omega) (by decide)) ⟨rfl, rfl⟩ ⟨Nat.zero_le _, Nat.zero_le _⟩ rfl rfl (Nat.le_of_ble_eq_true rfl) ?_
      refine g_ldc (pc' := 99) dX10_square_97 rfl kX10_165 ?_
      refine g_iadd (pc' := 100) dX10_square_99 rfl ?_
      exact g_iret dX10_square_100 rfl ⟨rfl, rfl⟩ (by simp only [rX10_square, sX10_square, if_pos c1, if_neg c2, if_pos c3, bI_t, bI_f])
    by_cases c4 : (x2 : Int32) = 2
    · refine g_tabIn (tgt := 101) 2 dX10_square_31 c4 (by decide) (by decide) rfl (by decide) ?_
      refine g_aload_n (pc' := 102) dX10_square_101 rfl 0 rfl rfl ?_
      refine g_callr (pc' := 105) dX10_square_102 rfl mX10_166 (ev_X3_sign (k := (66 + 7 * (x1.toNatClampNeg))) (s := (66 + 7 * (x1.toNatClampNeg) + 1)) (h := (66 + 7 * (x1.toNatClampNeg) + 2)) (r := (66 + 7 * (x1.toNatClampNeg) + 3)) (e := (66 + 7 * (x1.toNatClampNeg) + 4)) (w := (66 + 7 * (x1.toNatClampNeg) + 5)) (p := (66 + 7 * (x1.toNatClampNeg) + 6)) (σ := laF n 0 σ) (kiN _ (show x1.toNatClampNeg < 12 by omega)) (d := d + 3)) (kiN _ (show x1.toNatClampNeg < 12 by omega)).1 rfl (rm_ok (by omega) (by decide)) ⟨rfl, rfl⟩ ⟨Nat.zero_le _, Nat.zero_le _⟩ rfl rfl (Nat.le_of_ble_eq_true rfl) ?_
      refine g_iconst (pc' := 106) (v := 1) dX10_square_105 rfl (by decide) ?_
      refine g_iadd (pc' := 107) dX10_square_106 rfl ?_
      exact g_iret dX10_square_107 rfl ⟨rfl, rfl⟩ (by simp only [rX10_square, sX10_square, if_pos c1, if_neg c2, if_neg c3, if_pos c4, bI_t, bI_f])
    by_cases c5 : (x2 : Int32) = 3
    · refine g_tabIn (tgt := 108) 3 dX10_square_31 c5 (by decide) (by decide) rfl (by decide) ?_
      refine g_aload_n (pc' := 109) dX10_square_108 rfl 0 rfl rfl ?_
      refine g_callr (pc' := 112) dX10_square_109 rfl mX10_169 (ev_X3_order (k := (66 + 7 * (x1.toNatClampNeg))) (s := (66 + 7 * (x1.toNatClampNeg) + 1)) (h := (66 + 7 * (x1.toNatClampNeg) + 2)) (r := (66 + 7 * (x1.toNatClampNeg) + 3)) (e := (66 + 7 * (x1.toNatClampNeg) + 4)) (w := (66 + 7 * (x1.toNatClampNeg) + 5)) (p := (66 + 7 * (x1.toNatClampNeg) + 6)) (σ := laF n 0 σ) (kiN _ (show x1.toNatClampNeg < 12 by omega)) (d := d + 3)) (kiN _ (show x1.toNatClampNeg < 12 by omega)).1 rfl (rm_ok (by omega) (by decide)) ⟨rfl, rfl⟩ ⟨Nat.zero_le _, Nat.zero_le _⟩ rfl rfl (Nat.le_of_ble_eq_true rfl) ?_
      exact g_iret dX10_square_112 rfl ⟨rfl, rfl⟩ (by simp only [rX10_square, sX10_square, if_pos c1, if_neg c2, if_neg c3, if_neg c4, if_pos c5, bI_t, bI_f])
    by_cases c6 : (x2 : Int32) = 4
    · refine g_tabIn (tgt := 113) 4 dX10_square_31 c6 (by decide) (by decide) rfl (by decide) ?_
      refine g_aload_n (pc' := 114) dX10_square_113 rfl 0 rfl rfl ?_
      refine g_callr (pc' := 117) dX10_square_114 rfl mX10_157 (ev_X3_kind (k := (66 + 7 * (x1.toNatClampNeg))) (s := (66 + 7 * (x1.toNatClampNeg) + 1)) (h := (66 + 7 * (x1.toNatClampNeg) + 2)) (r := (66 + 7 * (x1.toNatClampNeg) + 3)) (e := (66 + 7 * (x1.toNatClampNeg) + 4)) (w := (66 + 7 * (x1.toNatClampNeg) + 5)) (p := (66 + 7 * (x1.toNatClampNeg) + 6)) (σ := laF n 0 σ) (kiN _ (show x1.toNatClampNeg < 12 by omega)) (d := d + 5)) (kiN _ (show x1.toNatClampNeg < 12 by omega)).1 rfl (rm_ok (by omega) (by decide)) ⟨rfl, rfl⟩ ⟨Nat.zero_le _, Nat.zero_le _⟩ rfl rfl (Nat.le_of_ble_eq_true rfl) ?_
      refine g_iconst (pc' := 118) (v := 2) dX10_square_117 rfl (by decide) ?_
      refine g_icmp_ne (pc' := 121) (tgt := 131) dX10_square_118 rfl (by decide) (fun (c7 : ¬ (rX3_kind (66 + 7 * (x1.toNatClampNeg)) (66 + 7 * (x1.toNatClampNeg) + 1) (66 + 7 * (x1.toNatClampNeg) + 2) (66 + 7 * (x1.toNatClampNeg) + 3) (66 + 7 * (x1.toNatClampNeg) + 4) (66 + 7 * (x1.toNatClampNeg) + 5) (66 + 7 * (x1.toNatClampNeg) + 6) (laF n 0 σ) : Int32) = 2) => ?_) (fun (c7 : (rX3_kind (66 + 7 * (x1.toNatClampNeg)) (66 + 7 * (x1.toNatClampNeg) + 1) (66 + 7 * (x1.toNatClampNeg) + 2) (66 + 7 * (x1.toNatClampNeg) + 3) (66 + 7 * (x1.toNatClampNeg) + 4) (66 + 7 * (x1.toNatClampNeg) + 5) (66 + 7 * (x1.toNatClampNeg) + 6) (laF n 0 σ) : Int32) = 2) => ?_)
      · refine g_iconst (pc' := 132) (v := 0) dX10_square_131 rfl (by decide) ?_
        exact g_iret dX10_square_132 rfl ⟨rfl, rfl⟩ (by simp only [rX10_square, sX10_square, if_pos c1, if_neg c2, if_neg c3, if_neg c4, if_neg c5, if_pos c6, if_neg c7, bI_t, bI_f])
      · refine g_aload_n (pc' := 122) dX10_square_121 rfl 0 rfl rfl ?_
        refine g_callr (pc' := 125) dX10_square_122 rfl mX10_172 (ev_X3_mark (k := (66 + 7 * (x1.toNatClampNeg))) (s := (66 + 7 * (x1.toNatClampNeg) + 1)) (h := (66 + 7 * (x1.toNatClampNeg) + 2)) (r := (66 + 7 * (x1.toNatClampNeg) + 3)) (e := (66 + 7 * (x1.toNatClampNeg) + 4)) (w := (66 + 7 * (x1.toNatClampNeg) + 5)) (p := (66 + 7 * (x1.toNatClampNeg) + 6)) (σ := laF n 0 σ) (kiN _ (show x1.toNatClampNeg < 12 by omega)) (d := d + 5)) (kiN _ (show x1.toNatClampNeg < 12 by omega)).1 rfl (rm_ok (by omega) (by decide)) ⟨rfl, rfl⟩ ⟨Nat.zero_le _, Nat.zero_le _⟩ rfl rfl (Nat.le_of_ble_eq_true rfl) ?_
        refine g_ldc (pc' := 127) dX10_square_125 rfl kX10_175 ?_
        refine g_iadd (pc' := 128) dX10_square_127 rfl ?_
        refine g_goto (tgt := 132) dX10_square_128 (by decide) ?_
        exact g_iret dX10_square_132 rfl ⟨rfl, rfl⟩ (by simp only [rX10_square, sX10_square, if_pos c1, if_neg c2, if_neg c3, if_neg c4, if_neg c5, if_pos c6, if_pos c7, bI_t, bI_f])
    by_cases c8 : (x2 : Int32) = 5
    · refine g_tabIn (tgt := 133) 5 dX10_square_31 c8 (by decide) (by decide) rfl (by decide) ?_
      refine g_aload_n (pc' := 134) dX10_square_133 rfl 0 rfl rfl ?_
      refine g_callr (pc' := 137) dX10_square_134 rfl mX10_176 (ev_X3_wheel (k := (66 + 7 * (x1.toNatClampNeg))) (s := (66 + 7 * (x1.toNatClampNeg) + 1)) (h := (66 + 7 * (x1.toNatClampNeg) + 2)) (r := (66 + 7 * (x1.toNatClampNeg) + 3)) (e := (66 + 7 * (x1.toNatClampNeg) + 4)) (w := (66 + 7 * (x1.toNatClampNeg) + 5)) (p := (66 + 7 * (x1.toNatClampNeg) + 6)) (σ := laF n 0 σ) (kiN _ (show x1.toNatClampNeg < 12 by omega)) (d := d + 5)) (kiN _ (show x1.toNatClampNeg < 12 by omega)).1 rfl (rm_ok (by omega) (by decide)) ⟨rfl, rfl⟩ ⟨Nat.zero_le _, Nat.zero_le _⟩ rfl rfl (Nat.le_of_ble_eq_true rfl) ?_
      refine g_callr (pc' := 140) dX10_square_137 rfl mX10_180 (ev_X8_count (k := (66 + 7 * (x1.toNatClampNeg) + 2)) (r := (66 + 7 * (x1.toNatClampNeg) + 3)) (e := (66 + 7 * (x1.toNatClampNeg) + 4)) (w := (66 + 7 * (x1.toNatClampNeg) + 5)) (p := (66 + 7 * (x1.toNatClampNeg) + 6)) (σ := laF n 0 σ) (kiN _ (show x1.toNatClampNeg < 12 by omega)).2.2 (d := d + 5)) (kiN _ (show x1.toNatClampNeg < 12 by omega)).2.2.1 rfl (rm_ok (by omega) (by decide)) ⟨rfl, rfl⟩ ⟨Nat.zero_le _, Nat.zero_le _⟩ rfl rfl (Nat.le_of_ble_eq_true rfl) ?_
      exact g_iret dX10_square_140 rfl ⟨rfl, rfl⟩ (by simp only [rX10_square, sX10_square, if_pos c1, if_neg c2, if_neg c3, if_neg c4, if_neg c5, if_neg c6, if_pos c8, bI_t, bI_f])
    by_cases c9 : (x2 : Int32) = 6
    · refine g_tabIn (tgt := 141) 6 dX10_square_31 c9 (by decide) (by decide) rfl (by decide) ?_
      refine g_aload_n (pc' := 142) dX10_square_141 rfl 0 rfl rfl ?_
      refine g_callr (pc' := 145) dX10_square_142 rfl mX10_176 (ev_X3_wheel (k := (66 + 7 * (x1.toNatClampNeg))) (s := (66 + 7 * (x1.toNatClampNeg) + 1)) (h := (66 + 7 * (x1.toNatClampNeg) + 2)) (r := (66 + 7 * (x1.toNatClampNeg) + 3)) (e := (66 + 7 * (x1.toNatClampNeg) + 4)) (w := (66 + 7 * (x1.toNatClampNeg) + 5)) (p := (66 + 7 * (x1.toNatClampNeg) + 6)) (σ := laF n 0 σ) (kiN _ (show x1.toNatClampNeg < 12 by omega)) (d := d + 5)) (kiN _ (show x1.toNatClampNeg < 12 by omega)).1 rfl (rm_ok (by omega) (by decide)) ⟨rfl, rfl⟩ ⟨Nat.zero_le _, Nat.zero_le _⟩ rfl rfl (Nat.le_of_ble_eq_true rfl) ?_
      refine g_callr (pc' := 148) dX10_square_145 rfl mX10_185 (ev_X8_times (k := (66 + 7 * (x1.toNatClampNeg) + 2)) (r := (66 + 7 * (x1.toNatClampNeg) + 3)) (e := (66 + 7 * (x1.toNatClampNeg) + 4)) (w := (66 + 7 * (x1.toNatClampNeg) + 5)) (p := (66 + 7 * (x1.toNatClampNeg) + 6)) (n := cnt (laF n 0 σ) (66 + 7 * (x1.toNatClampNeg) + 2)) (σ := laF n 0 σ) (kiN _ (show x1.toNatClampNeg < 12 by omega)).2.2 (laF_w n 0 σ hw _ (by omega)).1 (laF_w n 0 σ hw _ (by omega)).2.1 (d := d + 4)) (kiN _ (show x1.toNatClampNeg < 12 by omega)).2.2.1 rfl (rm_ok (by omega) (by decide)) ⟨rfl, rfl⟩ ⟨Nat.zero_le _, Nat.zero_le _⟩ rfl rfl (Nat.le_of_ble_eq_true rfl) ?_
      exact g_iret dX10_square_148 rfl ⟨rfl, rfl⟩ (by simp only [rX10_square, sX10_square, if_pos c1, if_neg c2, if_neg c3, if_neg c4, if_neg c5, if_neg c6, if_neg c8, if_pos c9, bI_t, bI_f])
    by_cases c10 : (x2 : Int32) = 7
    · refine g_tabIn (tgt := 149) 7 dX10_square_31 c10 (by decide) (by decide) rfl (by decide) ?_
      refine g_aload_n (pc' := 150) dX10_square_149 rfl 1 rfl rfl ?_
      refine g_getR (pc' := 153) (a := 51) dX10_square_150 rfl (PLk.lf fX10_42) o0 rfl ?_
      refine g_iload_n (pc' := 154) dX10_square_153 rfl 2 rfl rfl ?_
      refine g_callr (pc' := 157) dX10_square_154 rfl mX10_188 (ev_X2_isTwin (s := (x1.toNatClampNeg)) (x1 := x1) (σ := laF n 0 σ) q1 (by omega) (laF_w n 0 σ hw _ (by omega)) (laF_x h5) (d := d)) o51 rfl (rm_ok (by omega) (by decide)) ⟨rfl, rfl⟩ ⟨Nat.zero_le _, Nat.zero_le _⟩ rfl rfl (Nat.le_of_ble_eq_true rfl) ?_
      refine g_ifb_eq (pc' := 160) (tgt := 164) dX10_square_157 rfl (by decide) (fun (c11 : (rX2_isTwin (x1.toNatClampNeg) x1 (laF n 0 σ)) = false) => ?_) (fun (c11 : (rX2_isTwin (x1.toNatClampNeg) x1 (laF n 0 σ)) = true) => ?_)
      · refine g_iconst (pc' := 165) (v := 0) dX10_square_164 rfl (by decide) ?_
        exact g_iret dX10_square_165 rfl ⟨rfl, rfl⟩ (by simp only [rX10_square, sX10_square, if_pos c1, if_neg c2, if_neg c3, if_neg c4, if_neg c5, if_neg c6, if_neg c8, if_neg c9, if_pos c10, if_neg (bf c11), bI_t, bI_f])
      · refine g_iconst (pc' := 161) (v := 1) dX10_square_160 rfl (by decide) ?_
        refine g_goto (tgt := 165) dX10_square_161 (by decide) ?_
        exact g_iret dX10_square_165 rfl ⟨rfl, rfl⟩ (by simp only [rX10_square, sX10_square, if_pos c1, if_neg c2, if_neg c3, if_neg c4, if_neg c5, if_neg c6, if_neg c8, if_neg c9, if_pos c10, if_pos c11, bI_t, bI_f])
    by_cases c12 : (x2 : Int32) = 8
    · refine g_tabIn (tgt := 166) 8 dX10_square_31 c12 (by decide) (by decide) rfl (by decide) ?_
      refine g_aload_n (pc' := 167) dX10_square_166 rfl 1 rfl rfl ?_
      refine g_getR (pc' := 170) (a := 51) dX10_square_167 rfl (PLk.lf fX10_42) o0 rfl ?_
      refine g_iload_n (pc' := 171) dX10_square_170 rfl 2 rfl rfl ?_
      refine g_callr (pc' := 174) dX10_square_171 rfl mX10_191 (ev_X2_familyOf (x1 := x1) (s := (x1.toNatClampNeg)) (n := n) (σ := laF n 0 σ) q1 (by omega) (by rw [laF_1 (by omega)]; exact hz) hn (laF_w _ _ _ hw) (d := d + 1)) o51 rfl (rm_ok (by omega) (by decide)) ⟨rfl, rfl⟩ ⟨Nat.zero_le _, Nat.zero_le _⟩ rfl rfl (Nat.le_of_ble_eq_true rfl) ?_
      exact g_iret dX10_square_174 rfl ⟨rfl, rfl⟩ (by simp only [rX10_square, sX10_square, if_pos c1, if_neg c2, if_neg c3, if_neg c4, if_neg c5, if_neg c6, if_neg c8, if_neg c9, if_neg c10, if_pos c12, bI_t, bI_f])
    by_cases c13 : (x2 : Int32) = 9
    · refine g_tabIn (tgt := 175) 9 dX10_square_31 c13 (by decide) (by decide) rfl (by decide) ?_
      refine g_aload_n (pc' := 176) dX10_square_175 rfl 1 rfl rfl ?_
      refine g_getR (pc' := 179) (a := 51) dX10_square_176 rfl (PLk.lf fX10_42) o0 rfl ?_
      refine g_iload_n (pc' := 180) dX10_square_179 rfl 2 rfl rfl ?_
      refine g_callr (pc' := 183) dX10_square_180 rfl mX10_194 (ev_X2_isLikeMirrored (s := (x1.toNatClampNeg)) (x1 := x1) (σ := laF n 0 σ) q1 (by omega) (laF_w n 0 σ hw _ (by omega)) (laF_x h5) (d := d)) o51 rfl (rm_ok (by omega) (by decide)) ⟨rfl, rfl⟩ ⟨Nat.zero_le _, Nat.zero_le _⟩ rfl rfl (Nat.le_of_ble_eq_true rfl) ?_
      refine g_ifb_eq (pc' := 186) (tgt := 190) dX10_square_183 rfl (by decide) (fun (c14 : (rX2_isLikeMirrored (x1.toNatClampNeg) x1 (laF n 0 σ)) = false) => ?_) (fun (c14 : (rX2_isLikeMirrored (x1.toNatClampNeg) x1 (laF n 0 σ)) = true) => ?_)
      · refine g_iconst (pc' := 191) (v := 0) dX10_square_190 rfl (by decide) ?_
        exact g_iret dX10_square_191 rfl ⟨rfl, rfl⟩ (by simp only [rX10_square, sX10_square, if_pos c1, if_neg c2, if_neg c3, if_neg c4, if_neg c5, if_neg c6, if_neg c8, if_neg c9, if_neg c10, if_neg c12, if_pos c13, if_neg (bf c14), bI_t, bI_f])
      · refine g_iconst (pc' := 187) (v := 1) dX10_square_186 rfl (by decide) ?_
        refine g_goto (tgt := 191) dX10_square_187 (by decide) ?_
        exact g_iret dX10_square_191 rfl ⟨rfl, rfl⟩ (by simp only [rX10_square, sX10_square, if_pos c1, if_neg c2, if_neg c3, if_neg c4, if_neg c5, if_neg c6, if_neg c8, if_neg c9, if_neg c10, if_neg c12, if_pos c13, if_pos c14, bI_t, bI_f])
    by_cases c15 : (x2 : Int32) = 10
    · refine g_tabIn (tgt := 192) 10 dX10_square_31 c15 (by decide) (by decide) rfl (by decide) ?_
      refine g_aload_n (pc' := 193) dX10_square_192 rfl 0 rfl rfl ?_
      refine g_callr (pc' := 196) dX10_square_193 rfl mX10_176 (ev_X3_wheel (k := (66 + 7 * (x1.toNatClampNeg))) (s := (66 + 7 * (x1.toNatClampNeg) + 1)) (h := (66 + 7 * (x1.toNatClampNeg) + 2)) (r := (66 + 7 * (x1.toNatClampNeg) + 3)) (e := (66 + 7 * (x1.toNatClampNeg) + 4)) (w := (66 + 7 * (x1.toNatClampNeg) + 5)) (p := (66 + 7 * (x1.toNatClampNeg) + 6)) (σ := laF n 0 σ) (kiN _ (show x1.toNatClampNeg < 12 by omega)) (d := d + 5)) (kiN _ (show x1.toNatClampNeg < 12 by omega)).1 rfl (rm_ok (by omega) (by decide)) ⟨rfl, rfl⟩ ⟨Nat.zero_le _, Nat.zero_le _⟩ rfl rfl (Nat.le_of_ble_eq_true rfl) ?_
      refine g_callr (pc' := 199) dX10_square_196 rfl mX10_197 (ev_X8_letters (k := (66 + 7 * (x1.toNatClampNeg) + 2)) (r := (66 + 7 * (x1.toNatClampNeg) + 3)) (e := (66 + 7 * (x1.toNatClampNeg) + 4)) (w := (66 + 7 * (x1.toNatClampNeg) + 5)) (p := (66 + 7 * (x1.toNatClampNeg) + 6)) (n := cnt (laF n 0 σ) (66 + 7 * (x1.toNatClampNeg) + 2)) (σ := laF n 0 σ) (kiN _ (show x1.toNatClampNeg < 12 by omega)).2.2 (laF_w n 0 σ hw _ (by omega)).1 (laF_w n 0 σ hw _ (by omega)).2.1 (d := d + 5)) (kiN _ (show x1.toNatClampNeg < 12 by omega)).2.2.1 rfl (rm_ok (by omega) (by decide)) ⟨rfl, rfl⟩ ⟨Nat.zero_le _, Nat.zero_le _⟩ rfl rfl (Nat.le_of_ble_eq_true rfl) ?_
      exact g_iret dX10_square_199 rfl ⟨rfl, rfl⟩ (by simp only [rX10_square, sX10_square, if_pos c1, if_neg c2, if_neg c3, if_neg c4, if_neg c5, if_neg c6, if_neg c8, if_neg c9, if_neg c10, if_neg c12, if_neg c13, if_pos c15, bI_t, bI_f])
    refine g_tabOut (tgt := 200) dX10_square_31 (by have hh := And.intro trivial trivial; have hh0 := lv_neT c2 (a := 0) (by decide); have hh1 := lv_neT c3 (a := 1) (by decide); have hh2 := lv_neT c4 (a := 2) (by decide); have hh3 := lv_neT c5 (a := 3) (by decide); have hh4 := lv_neT c6 (a := 4) (by decide); have hh5 := lv_neT c8 (a := 5) (by decide); have hh6 := lv_neT c9 (a := 6) (by decide); have hh7 := lv_neT c10 (a := 7) (by decide); have hh8 := lv_neT c12 (a := 8) (by decide); have hh9 := lv_neT c13 (a := 9) (by decide); have hh10 := lv_neT c15 (a := 10) (by decide); omega) (by decide) ?_
    refine g_ldc (pc' := 202) dX10_square_200 rfl kX10_70 ?_
    exact g_iret dX10_square_202 rfl ⟨rfl, rfl⟩ (by simp only [rX10_square, sX10_square, if_pos c1, if_neg c2, if_neg c3, if_neg c4, if_neg c5, if_neg c6, if_neg c8, if_neg c9, if_neg c10, if_neg c12, if_neg c13, if_neg c15, bI_t, bI_f])
  · refine g_ldc (pc' := 13) dX10_square_11 rfl kX10_147 ?_
    exact g_iret dX10_square_13 rfl ⟨rfl, rfl⟩ (by simp only [rX10_square, sX10_square, if_neg (bf c1), bI_t, bI_f])
def rX10_run (n : Nat) (x1 : Int32) (x2 : Int32) (σ : Sg) : Int32 := if (rX5_has 1 2 x1 σ) = true then runAtF ((laF n 0 σ).1 (66 + 7 * (x1.toNatClampNeg) + 3)) (cnt (laF n 0 σ) (66 + 7 * (x1.toNatClampNeg) + 2)) (stt (laF n 0 σ) (66 + 7 * (x1.toNatClampNeg) + 2)) x2 else -1000000001
def sX10_run (n : Nat) (x1 : Int32) (x2 : Int32) (σ : Sg) : Sg := if (rX5_has 1 2 x1 σ) = true then laF n 0 σ else σ
set_option maxRecDepth 100000 in
set_option maxHeartbeats 4000000 in
theorem ev_X10_run {l : Launch} {b : Nat} {cy : Nat → ClassId} {D : va_G} {d : Nat} {n : Nat} {x1 : Int32} {x2 : Int32} {σ : Sg}  (hz : σ.1 1 1 = nI n) (hn : n ≤ 12) (hw : WAll σ) : Es l b cy D (d + 6) yX10_run cX10_run (Option.some Jvm.ClassFile.FieldType.int) 3 [.ref (b + 0), .int (x1), .int (x2)] σ (some (.int (rX10_run n x1 x2 σ))) (sX10_run n x1 x2 σ) := by
  refine Ev.of (by decide) (Nat.le_of_ble_eq_true rfl) rfl ?_
  refine g_aload_n (pc' := 1) dX10_run_0 rfl 0 rfl rfl ?_
  refine g_getR (pc' := 4) (a := 1) dX10_run_1 rfl (PLk.lf fX10_10) o0 rfl ?_
  refine g_iload_n (pc' := 5) dX10_run_4 rfl 1 rfl rfl ?_
  refine g_callr (pc' := 8) dX10_run_5 rfl mX10_136 (ev_X5_has (k := 1) (c := 2) (x1 := x1) (σ := σ) sf1 (d := d + 5)) o1 rfl (rm_ok (by omega) (by decide)) ⟨rfl, rfl⟩ ⟨Nat.zero_le _, Nat.zero_le _⟩ rfl rfl (Nat.le_of_ble_eq_true rfl) ?_
  refine g_ifb_ne (pc' := 11) (tgt := 14) dX10_run_8 rfl (by decide) (fun (c1 : (rX5_has 1 2 x1 σ) = true) => ?_) (fun (c1 : (rX5_has 1 2 x1 σ) = false) => ?_)
  · obtain ⟨q1, h1⟩ := has_t hz hn c1
    refine g_aload_n (pc' := 15) dX10_run_14 rfl 0 rfl rfl ?_
    refine g_getR (pc' := 18) (a := 51) dX10_run_15 rfl (PLk.lf fX10_42) o0 rfl ?_
    refine g_callv (pc' := 21) dX10_run_18 rfl mX10_112 (ev_X2_lookAround (n := n) (σ := σ) hz hn (d := d)) o51 rfl (rm_ok (by omega) (by decide)) ⟨rfl, rfl⟩ ⟨Nat.zero_le _, Nat.zero_le _⟩ rfl rfl (Nat.le_of_ble_eq_true rfl) ?_
    refine g_aload_n (pc' := 22) dX10_run_21 rfl 0 rfl rfl ?_
    refine g_getR (pc' := 25) (a := 51) dX10_run_22 rfl (PLk.lf fX10_42) o0 rfl ?_
    refine g_iload_n (pc' := 26) dX10_run_25 rfl 1 rfl rfl ?_
    refine g_callr (pc' := 29) dX10_run_26 rfl mX10_153 (ev_X2_kinOf (s := (x1.toNatClampNeg)) (x1 := x1) (σ := laF n 0 σ) q1 (show x1.toNatClampNeg < 12 by omega) (d := d + 5)) o51 rfl (rm_ok (by omega) (by decide)) ⟨rfl, rfl⟩ ⟨Nat.zero_le _, Nat.zero_le _⟩ rfl rfl (Nat.le_of_ble_eq_true rfl) ?_
    refine g_callr (pc' := 32) dX10_run_29 rfl mX10_176 (ev_X3_wheel (k := (66 + 7 * (x1.toNatClampNeg))) (s := (66 + 7 * (x1.toNatClampNeg) + 1)) (h := (66 + 7 * (x1.toNatClampNeg) + 2)) (r := (66 + 7 * (x1.toNatClampNeg) + 3)) (e := (66 + 7 * (x1.toNatClampNeg) + 4)) (w := (66 + 7 * (x1.toNatClampNeg) + 5)) (p := (66 + 7 * (x1.toNatClampNeg) + 6)) (σ := laF n 0 σ) (kiN _ (show x1.toNatClampNeg < 12 by omega)) (d := d + 5)) (kiN _ (show x1.toNatClampNeg < 12 by omega)).1 rfl (rm_ok (by omega) (by decide)) ⟨rfl, rfl⟩ ⟨Nat.zero_le _, Nat.zero_le _⟩ rfl rfl (Nat.le_of_ble_eq_true rfl) ?_
    refine g_iload_n (pc' := 33) dX10_run_32 rfl 2 rfl rfl ?_
    refine g_callr (pc' := 36) dX10_run_33 rfl mX10_200 (ev_X8_runAt (k := (66 + 7 * (x1.toNatClampNeg) + 2)) (r := (66 + 7 * (x1.toNatClampNeg) + 3)) (e := (66 + 7 * (x1.toNatClampNeg) + 4)) (w := (66 + 7 * (x1.toNatClampNeg) + 5)) (p := (66 + 7 * (x1.toNatClampNeg) + 6)) (x1 := x2) (n := cnt (laF n 0 σ) (66 + 7 * (x1.toNatClampNeg) + 2)) (t := stt (laF n 0 σ) (66 + 7 * (x1.toNatClampNeg) + 2)) (σ := laF n 0 σ) (kiN _ (show x1.toNatClampNeg < 12 by omega)).2.2 (laF_w n 0 σ hw _ (by omega)).1 (laF_w n 0 σ hw _ (by omega)).2.1 (laF_w n 0 σ hw _ (by omega)).2.2.1 (laF_w n 0 σ hw _ (by omega)).t (d := d + 5)) (kiN _ (show x1.toNatClampNeg < 12 by omega)).2.2.1 rfl (rm_ok (by omega) (by decide)) ⟨rfl, rfl⟩ ⟨Nat.zero_le _, Nat.zero_le _⟩ rfl rfl (Nat.le_of_ble_eq_true rfl) ?_
    exact g_iret dX10_run_36 rfl ⟨rfl, rfl⟩ (by simp only [rX10_run, sX10_run, if_pos c1, bI_t, bI_f])
  · refine g_ldc (pc' := 13) dX10_run_11 rfl kX10_147 ?_
    exact g_iret dX10_run_13 rfl ⟨rfl, rfl⟩ (by simp only [rX10_run, sX10_run, if_neg (bf c1), bI_t, bI_f])
def rX10_pair (n : Nat) (x1 : Int32) (x2 : Int32) (x3 : Int32) (σ : Sg) : Int32 := if (rX5_has 1 2 x1 σ) = true then if (rX5_has 1 2 x2 σ) = true then if (x3 : Int32) = 0 then if (rX2_areAlike (x1.toNatClampNeg) (x2.toNatClampNeg) x1 x2 (laF n 0 σ)) = true then 1 else 0 else if (x3 : Int32) = 1 then if (rX2_goTogether (x1.toNatClampNeg) (x2.toNatClampNeg) x1 x2 (laF n 0 σ)) = true then 1 else 0 else if (x3 : Int32) = 2 then (bgR (x1.toNatClampNeg) (x2.toNatClampNeg) (laF n 0 σ)).1 else -1000000002 else -1000000001 else -1000000001
def sX10_pair (n : Nat) (x1 : Int32) (x2 : Int32) (x3 : Int32) (σ : Sg) : Sg := if (rX5_has 1 2 x1 σ) = true then if (rX5_has 1 2 x2 σ) = true then if (x3 : Int32) = 0 then if (rX2_areAlike (x1.toNatClampNeg) (x2.toNatClampNeg) x1 x2 (laF n 0 σ)) = true then laF n 0 σ else laF n 0 σ else if (x3 : Int32) = 1 then if (rX2_goTogether (x1.toNatClampNeg) (x2.toNatClampNeg) x1 x2 (laF n 0 σ)) = true then sX2_goTogether (x1.toNatClampNeg) (x2.toNatClampNeg) x1 x2 (laF n 0 σ) else sX2_goTogether (x1.toNatClampNeg) (x2.toNatClampNeg) x1 x2 (laF n 0 σ) else if (x3 : Int32) = 2 then (bgR (x1.toNatClampNeg) (x2.toNatClampNeg) (laF n 0 σ)).2 else laF n 0 σ else σ else σ
set_option maxRecDepth 100000 in
set_option maxHeartbeats 4000000 in
theorem ev_X10_pair {l : Launch} {b : Nat} {cy : Nat → ClassId} {D : va_G} {d : Nat} {n : Nat} {x1 : Int32} {x2 : Int32} {x3 : Int32} {σ : Sg}  (hz : σ.1 1 1 = nI n) (hn : n ≤ 12) (hw : WAll σ) : Es l b cy D (d + 6) yX10_pair cX10_pair (Option.some Jvm.ClassFile.FieldType.int) 4 [.ref (b + 0), .int (x1), .int (x2), .int (x3)] σ (some (.int (rX10_pair n x1 x2 x3 σ))) (sX10_pair n x1 x2 x3 σ) := by
  refine Ev.of (by decide) (Nat.le_of_ble_eq_true rfl) rfl ?_
  refine g_aload_n (pc' := 1) dX10_pair_0 rfl 0 rfl rfl ?_
  refine g_getR (pc' := 4) (a := 1) dX10_pair_1 rfl (PLk.lf fX10_10) o0 rfl ?_
  refine g_iload_n (pc' := 5) dX10_pair_4 rfl 1 rfl rfl ?_
  refine g_callr (pc' := 8) dX10_pair_5 rfl mX10_136 (ev_X5_has (k := 1) (c := 2) (x1 := x1) (σ := σ) sf1 (d := d + 5)) o1 rfl (rm_ok (by omega) (by decide)) ⟨rfl, rfl⟩ ⟨Nat.zero_le _, Nat.zero_le _⟩ rfl rfl (Nat.le_of_ble_eq_true rfl) ?_
  refine g_ifb_eq (pc' := 11) (tgt := 22) dX10_pair_8 rfl (by decide) (fun (c1 : (rX5_has 1 2 x1 σ) = false) => ?_) (fun (c1 : (rX5_has 1 2 x1 σ) = true) => ?_)
  · refine g_ldc (pc' := 24) dX10_pair_22 rfl kX10_147 ?_
    exact g_iret dX10_pair_24 rfl ⟨rfl, rfl⟩ (by simp only [rX10_pair, sX10_pair, if_neg (bf c1), bI_t, bI_f])
  · refine g_aload_n (pc' := 12) dX10_pair_11 rfl 0 rfl rfl ?_
    refine g_getR (pc' := 15) (a := 1) dX10_pair_12 rfl (PLk.lf fX10_10) o0 rfl ?_
    refine g_iload_n (pc' := 16) dX10_pair_15 rfl 2 rfl rfl ?_
    refine g_callr (pc' := 19) dX10_pair_16 rfl mX10_136 (ev_X5_has (k := 1) (c := 2) (x1 := x2) (σ := σ) sf1 (d := d + 5)) o1 rfl (rm_ok (by omega) (by decide)) ⟨rfl, rfl⟩ ⟨Nat.zero_le _, Nat.zero_le _⟩ rfl rfl (Nat.le_of_ble_eq_true rfl) ?_
    refine g_ifb_ne (pc' := 22) (tgt := 25) dX10_pair_19 rfl (by decide) (fun (c2 : (rX5_has 1 2 x2 σ) = true) => ?_) (fun (c2 : (rX5_has 1 2 x2 σ) = false) => ?_)
    · obtain ⟨q1, h1⟩ := has_t hz hn c1
      obtain ⟨q2, h2⟩ := has_t hz hn c2
      refine g_aload_n (pc' := 26) dX10_pair_25 rfl 0 rfl rfl ?_
      refine g_getR (pc' := 29) (a := 51) dX10_pair_26 rfl (PLk.lf fX10_42) o0 rfl ?_
      refine g_callv (pc' := 32) dX10_pair_29 rfl mX10_112 (ev_X2_lookAround (n := n) (σ := σ) hz hn (d := d)) o51 rfl (rm_ok (by omega) (by decide)) ⟨rfl, rfl⟩ ⟨Nat.zero_le _, Nat.zero_le _⟩ rfl rfl (Nat.le_of_ble_eq_true rfl) ?_
      refine g_iload_n (pc' := 33) dX10_pair_32 rfl 3 rfl rfl ?_
      by_cases c3 : (x3 : Int32) = 0
      · refine g_tabIn (tgt := 60) 0 dX10_pair_33 c3 (by decide) (by decide) rfl (by decide) ?_
        refine g_aload_n (pc' := 61) dX10_pair_60 rfl 0 rfl rfl ?_
        refine g_getR (pc' := 64) (a := 51) dX10_pair_61 rfl (PLk.lf fX10_42) o0 rfl ?_
        refine g_iload_n (pc' := 65) dX10_pair_64 rfl 1 rfl rfl ?_
        refine g_iload_n (pc' := 66) dX10_pair_65 rfl 2 rfl rfl ?_
        refine g_callr (pc' := 69) dX10_pair_66 rfl mX10_140 (ev_X2_areAlike (s := (x1.toNatClampNeg)) (u := (x2.toNatClampNeg)) (x1 := x1) (x2 := x2) (σ := laF n 0 σ) q1 (by omega) q2 (by omega) (laF_w n 0 σ hw _ (by omega)) (laF_w n 0 σ hw _ (by omega)) (d := d + 2)) o51 rfl (rm_ok (by omega) (by decide)) ⟨rfl, rfl⟩ ⟨Nat.zero_le _, Nat.zero_le _⟩ rfl rfl (Nat.le_of_ble_eq_true rfl) ?_
        refine g_ifb_eq (pc' := 72) (tgt := 76) dX10_pair_69 rfl (by decide) (fun (c4 : (rX2_areAlike (x1.toNatClampNeg) (x2.toNatClampNeg) x1 x2 (laF n 0 σ)) = false) => ?_) (fun (c4 : (rX2_areAlike (x1.toNatClampNeg) (x2.toNatClampNeg) x1 x2 (laF n 0 σ)) = true) => ?_)
        · refine g_iconst (pc' := 77) (v := 0) dX10_pair_76 rfl (by decide) ?_
          exact g_iret dX10_pair_77 rfl ⟨rfl, rfl⟩ (by simp only [rX10_pair, sX10_pair, if_pos c1, if_pos c2, if_pos c3, if_neg (bf c4), bI_t, bI_f])
        · refine g_iconst (pc' := 73) (v := 1) dX10_pair_72 rfl (by decide) ?_
          refine g_goto (tgt := 77) dX10_pair_73 (by decide) ?_
          exact g_iret dX10_pair_77 rfl ⟨rfl, rfl⟩ (by simp only [rX10_pair, sX10_pair, if_pos c1, if_pos c2, if_pos c3, if_pos c4, bI_t, bI_f])
      by_cases c5 : (x3 : Int32) = 1
      · refine g_tabIn (tgt := 78) 1 dX10_pair_33 c5 (by decide) (by decide) rfl (by decide) ?_
        refine g_aload_n (pc' := 79) dX10_pair_78 rfl 0 rfl rfl ?_
        refine g_getR (pc' := 82) (a := 51) dX10_pair_79 rfl (PLk.lf fX10_42) o0 rfl ?_
        refine g_iload_n (pc' := 83) dX10_pair_82 rfl 1 rfl rfl ?_
        refine g_iload_n (pc' := 84) dX10_pair_83 rfl 2 rfl rfl ?_
        refine g_callr (pc' := 87) dX10_pair_84 rfl mX10_263 (ev_X2_goTogether (s := (x1.toNatClampNeg)) (u := (x2.toNatClampNeg)) (x1 := x1) (x2 := x2) (σ := laF n 0 σ) q1 (by omega) q2 (by omega) (d := d + 3)) o51 rfl (rm_ok (by omega) (by decide)) ⟨rfl, rfl⟩ ⟨Nat.zero_le _, Nat.zero_le _⟩ rfl rfl (Nat.le_of_ble_eq_true rfl) ?_
        refine g_ifb_eq (pc' := 90) (tgt := 94) dX10_pair_87 rfl (by decide) (fun (c6 : (rX2_goTogether (x1.toNatClampNeg) (x2.toNatClampNeg) x1 x2 (laF n 0 σ)) = false) => ?_) (fun (c6 : (rX2_goTogether (x1.toNatClampNeg) (x2.toNatClampNeg) x1 x2 (laF n 0 σ)) = true) => ?_)
        · refine g_iconst (pc' := 95) (v := 0) dX10_pair_94 rfl (by decide) ?_
          exact g_iret dX10_pair_95 rfl ⟨rfl, rfl⟩ (by simp only [rX10_pair, sX10_pair, if_pos c1, if_pos c2, if_neg c3, if_pos c5, if_neg (bf c6), bI_t, bI_f])
        · refine g_iconst (pc' := 91) (v := 1) dX10_pair_90 rfl (by decide) ?_
          refine g_goto (tgt := 95) dX10_pair_91 (by decide) ?_
          exact g_iret dX10_pair_95 rfl ⟨rfl, rfl⟩ (by simp only [rX10_pair, sX10_pair, if_pos c1, if_pos c2, if_neg c3, if_pos c5, if_pos c6, bI_t, bI_f])
      by_cases c7 : (x3 : Int32) = 2
      · refine g_tabIn (tgt := 96) 2 dX10_pair_33 c7 (by decide) (by decide) rfl (by decide) ?_
        refine g_aload_n (pc' := 97) dX10_pair_96 rfl 0 rfl rfl ?_
        refine g_getR (pc' := 100) (a := 51) dX10_pair_97 rfl (PLk.lf fX10_42) o0 rfl ?_
        refine g_iload_n (pc' := 101) dX10_pair_100 rfl 1 rfl rfl ?_
        refine g_iload_n (pc' := 102) dX10_pair_101 rfl 2 rfl rfl ?_
        refine g_callr (pc' := 105) dX10_pair_102 rfl mX10_266 (ev_X2_begins (x1 := x1) (x2 := x2) (s := (x1.toNatClampNeg)) (u := (x2.toNatClampNeg)) (σ := laF n 0 σ) q1 (by omega) q2 (by omega) (d := d + 2)) o51 rfl (rm_ok (by omega) (by decide)) ⟨rfl, rfl⟩ ⟨Nat.zero_le _, Nat.zero_le _⟩ rfl rfl (Nat.le_of_ble_eq_true rfl) ?_
        exact g_iret dX10_pair_105 rfl ⟨rfl, rfl⟩ (by simp only [rX10_pair, sX10_pair, if_pos c1, if_pos c2, if_neg c3, if_neg c5, if_pos c7, bI_t, bI_f])
      refine g_tabOut (tgt := 106) dX10_pair_33 (by have hh := And.intro trivial trivial; have hh0 := lv_neT c3 (a := 0) (by decide); have hh1 := lv_neT c5 (a := 1) (by decide); have hh2 := lv_neT c7 (a := 2) (by decide); omega) (by decide) ?_
      refine g_ldc (pc' := 108) dX10_pair_106 rfl kX10_70 ?_
      exact g_iret dX10_pair_108 rfl ⟨rfl, rfl⟩ (by simp only [rX10_pair, sX10_pair, if_pos c1, if_pos c2, if_neg c3, if_neg c5, if_neg c7, bI_t, bI_f])
    · refine g_ldc (pc' := 24) dX10_pair_22 rfl kX10_147 ?_
      exact g_iret dX10_pair_24 rfl ⟨rfl, rfl⟩ (by simp only [rX10_pair, sX10_pair, if_pos c1, if_neg (bf c2), bI_t, bI_f])
