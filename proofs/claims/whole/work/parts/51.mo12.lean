noncomputable section
def rX11_multiply (t : Nat) (n : Nat) (x1 : Int32) (x2 : Int32) (σ : Sg) : Int32 := if (rX11_isSquare x1 σ) = true then if (rX11_isSquare x2 σ) = true then if (σ.1 160 0 : Int32) = 12 then -1000000004 else if (rX11_isWell (sX11_multiplies ((((sX11_takesFrom x1.toNatClampNeg x1 σ).1) 160 (1 + 4 * x2.toNatClampNeg) : Int32).toInt64) ((((sX11_takesFrom x1.toNatClampNeg x1 σ).1) 160 (2 + 4 * x2.toNatClampNeg) : Int32).toInt64) ((((sX11_takesFrom x1.toNatClampNeg x1 σ).1) 160 (3 + 4 * x2.toNatClampNeg) : Int32).toInt64) ((((sX11_takesFrom x1.toNatClampNeg x1 σ).1) 160 (4 + 4 * x2.toNatClampNeg) : Int32).toInt64) (sX11_takesFrom x1.toNatClampNeg x1 σ))) = true then rX11_puts t n (sX11_multiplies ((((sX11_takesFrom x1.toNatClampNeg x1 σ).1) 160 (1 + 4 * x2.toNatClampNeg) : Int32).toInt64) ((((sX11_takesFrom x1.toNatClampNeg x1 σ).1) 160 (2 + 4 * x2.toNatClampNeg) : Int32).toInt64) ((((sX11_takesFrom x1.toNatClampNeg x1 σ).1) 160 (3 + 4 * x2.toNatClampNeg) : Int32).toInt64) ((((sX11_takesFrom x1.toNatClampNeg x1 σ).1) 160 (4 + 4 * x2.toNatClampNeg) : Int32).toInt64) (sX11_takesFrom x1.toNatClampNeg x1 σ)) else -1000000003 else -1000000001 else -1000000001
def sX11_multiply (t : Nat) (n : Nat) (x1 : Int32) (x2 : Int32) (σ : Sg) : Sg := if (rX11_isSquare x1 σ) = true then if (rX11_isSquare x2 σ) = true then if (σ.1 160 0 : Int32) = 12 then σ else if (rX11_isWell (sX11_multiplies ((((sX11_takesFrom x1.toNatClampNeg x1 σ).1) 160 (1 + 4 * x2.toNatClampNeg) : Int32).toInt64) ((((sX11_takesFrom x1.toNatClampNeg x1 σ).1) 160 (2 + 4 * x2.toNatClampNeg) : Int32).toInt64) ((((sX11_takesFrom x1.toNatClampNeg x1 σ).1) 160 (3 + 4 * x2.toNatClampNeg) : Int32).toInt64) ((((sX11_takesFrom x1.toNatClampNeg x1 σ).1) 160 (4 + 4 * x2.toNatClampNeg) : Int32).toInt64) (sX11_takesFrom x1.toNatClampNeg x1 σ))) = true then sX11_puts t n (sX11_multiplies ((((sX11_takesFrom x1.toNatClampNeg x1 σ).1) 160 (1 + 4 * x2.toNatClampNeg) : Int32).toInt64) ((((sX11_takesFrom x1.toNatClampNeg x1 σ).1) 160 (2 + 4 * x2.toNatClampNeg) : Int32).toInt64) ((((sX11_takesFrom x1.toNatClampNeg x1 σ).1) 160 (3 + 4 * x2.toNatClampNeg) : Int32).toInt64) ((((sX11_takesFrom x1.toNatClampNeg x1 σ).1) 160 (4 + 4 * x2.toNatClampNeg) : Int32).toInt64) (sX11_takesFrom x1.toNatClampNeg x1 σ)) else sX11_multiplies ((((sX11_takesFrom x1.toNatClampNeg x1 σ).1) 160 (1 + 4 * x2.toNatClampNeg) : Int32).toInt64) ((((sX11_takesFrom x1.toNatClampNeg x1 σ).1) 160 (2 + 4 * x2.toNatClampNeg) : Int32).toInt64) ((((sX11_takesFrom x1.toNatClampNeg x1 σ).1) 160 (3 + 4 * x2.toNatClampNeg) : Int32).toInt64) ((((sX11_takesFrom x1.toNatClampNeg x1 σ).1) 160 (4 + 4 * x2.toNatClampNeg) : Int32).toInt64) (sX11_takesFrom x1.toNatClampNeg x1 σ) else σ else σ
set_option maxRecDepth 100000 in
set_option maxHeartbeats 4000000 in
theorem ev_X11_multiply {l : Launch} {b : Nat} {cy : Nat → ClassId} {D : va_G} {d : Nat} {t : Nat} {n : Nat} {x1 : Int32} {x2 : Int32} {σ : Sg}  (hu : σ.1 159 2 = nI t) (htt : t ≤ 20) (hz : σ.1 160 0 = nI n) (hn : n ≤ 12) : Es l b cy D (d + 3) yX11_multiply cX11_multiply (Option.some Jvm.ClassFile.FieldType.int) 3 [.ref (b + 159), .int (x1), .int (x2)] σ (some (.int (rX11_multiply t n x1 x2 σ))) (sX11_multiply t n x1 x2 σ) := by
  refine Ev.of (by decide) (Nat.le_of_ble_eq_true rfl) rfl ?_
  refine g_aload_n (pc' := 1) dX11_multiply_0 rfl 0 rfl rfl ?_
  refine g_iload_n (pc' := 2) dX11_multiply_1 rfl 1 rfl rfl ?_
  refine g_callr (pc' := 5) dX11_multiply_2 rfl mX11_234 (ev_X11_isSquare (x1 := x1) (σ := σ)  (d := d + 1)) o159 rfl (rm_ok (by omega) (by decide)) ⟨rfl, rfl⟩ ⟨Nat.zero_le _, Nat.zero_le _⟩ rfl rfl (Nat.le_of_ble_eq_true rfl) ?_
  refine g_ifb_eq (pc' := 8) (tgt := 16) dX11_multiply_5 rfl (by decide) (fun (c1 : (rX11_isSquare x1 σ) = false) => ?_) (fun (c1 : (rX11_isSquare x1 σ) = true) => ?_)
  · refine g_ldc (pc' := 18) dX11_multiply_16 rfl kX11_249 ?_
    exact g_iret dX11_multiply_18 rfl ⟨rfl, rfl⟩ (by simp only [rX11_multiply, sX11_multiply, if_neg (bf c1), bI_t, bI_f])
  · refine g_aload_n (pc' := 9) dX11_multiply_8 rfl 0 rfl rfl ?_
    refine g_iload_n (pc' := 10) dX11_multiply_9 rfl 2 rfl rfl ?_
    refine g_callr (pc' := 13) dX11_multiply_10 rfl mX11_234 (ev_X11_isSquare (x1 := x2) (σ := σ)  (d := d + 1)) o159 rfl (rm_ok (by omega) (by decide)) ⟨rfl, rfl⟩ ⟨Nat.zero_le _, Nat.zero_le _⟩ rfl rfl (Nat.le_of_ble_eq_true rfl) ?_
    refine g_ifb_ne (pc' := 16) (tgt := 19) dX11_multiply_13 rfl (by decide) (fun (c2 : (rX11_isSquare x2 σ) = true) => ?_) (fun (c2 : (rX11_isSquare x2 σ) = false) => ?_)
    · have e1 := isq hz hn c1
      have e2 := isq hz hn c2
      refine g_aload_n (pc' := 20) dX11_multiply_19 rfl 0 rfl rfl ?_
      refine g_getR (pc' := 23) (a := 160) dX11_multiply_20 rfl (PLk.lf fX11_7) o159 rfl ?_
      refine g_iconst (pc' := 24) (v := 0) dX11_multiply_23 rfl (by decide) ?_
      refine g_iald (pc' := 25) (j := 0) dX11_multiply_24 rfl o160 (by decide) (by decide) (by decide) ?_
      refine g_bipush (pc' := 27) (v := 12) dX11_multiply_25 rfl (by decide) ?_
      refine g_icmp_ne (pc' := 30) (tgt := 33) dX11_multiply_27 rfl (by decide) (fun (c3 : ¬ (σ.1 160 0 : Int32) = 12) => ?_) (fun (c3 : (σ.1 160 0 : Int32) = 12) => ?_)
      · have n12 : n < 12 := ltne (N := 12) hz hn c3
        refine g_aload_n (pc' := 34) dX11_multiply_33 rfl 0 rfl rfl ?_
        refine g_iload_n (pc' := 35) dX11_multiply_34 rfl 1 rfl rfl ?_
        refine g_callv (pc' := 38) dX11_multiply_35 rfl mX11_207 (ev_X11_takesFrom (s := x1.toNatClampNeg) (x1 := x1) (σ := σ) e1.1 (Nat.lt_of_lt_of_le e1.2 hn) (d := d + 1)) o159 rfl (rm_ok (by omega) (by decide)) ⟨rfl, rfl⟩ ⟨Nat.zero_le _, Nat.zero_le _⟩ rfl rfl (Nat.le_of_ble_eq_true rfl) ?_
        refine g_aload_n (pc' := 39) dX11_multiply_38 rfl 0 rfl rfl ?_
        refine g_aload_n (pc' := 40) dX11_multiply_39 rfl 0 rfl rfl ?_
        refine g_getR (pc' := 43) (a := 160) dX11_multiply_40 rfl (PLk.lf fX11_7) o159 rfl ?_
        refine g_iconst (pc' := 44) (v := 1) dX11_multiply_43 rfl (by decide) ?_
        refine g_iconst (pc' := 45) (v := 4) dX11_multiply_44 rfl (by decide) ?_
        refine g_iload_n (pc' := 46) dX11_multiply_45 rfl 2 rfl rfl ?_
        refine g_imul (pc' := 47) dX11_multiply_46 rfl ?_
        refine g_iadd (pc' := 48) dX11_multiply_47 rfl ?_
        refine g_iald (pc' := 49) (j := (1 + 4 * x2.toNatClampNeg)) dX11_multiply_48 rfl o160 (by decide) (i14y (c := 1) e2.1) (by have := e2.2; omega) ?_
        refine g_i2l (pc' := 50) dX11_multiply_49 rfl ?_
        refine g_aload_n (pc' := 51) dX11_multiply_50 rfl 0 rfl rfl ?_
        refine g_getR (pc' := 54) (a := 160) dX11_multiply_51 rfl (PLk.lf fX11_7) o159 rfl ?_
        refine g_iconst (pc' := 55) (v := 2) dX11_multiply_54 rfl (by decide) ?_
        refine g_iconst (pc' := 56) (v := 4) dX11_multiply_55 rfl (by decide) ?_
        refine g_iload_n (pc' := 57) dX11_multiply_56 rfl 2 rfl rfl ?_
        refine g_imul (pc' := 58) dX11_multiply_57 rfl ?_
        refine g_iadd (pc' := 59) dX11_multiply_58 rfl ?_
        refine g_iald (pc' := 60) (j := (2 + 4 * x2.toNatClampNeg)) dX11_multiply_59 rfl o160 (by decide) (i14y (c := 2) e2.1) (by have := e2.2; omega) ?_
        refine g_i2l (pc' := 61) dX11_multiply_60 rfl ?_
        refine g_aload_n (pc' := 62) dX11_multiply_61 rfl 0 rfl rfl ?_
        refine g_getR (pc' := 65) (a := 160) dX11_multiply_62 rfl (PLk.lf fX11_7) o159 rfl ?_
        refine g_iconst (pc' := 66) (v := 3) dX11_multiply_65 rfl (by decide) ?_
        refine g_iconst (pc' := 67) (v := 4) dX11_multiply_66 rfl (by decide) ?_
        refine g_iload_n (pc' := 68) dX11_multiply_67 rfl 2 rfl rfl ?_
        refine g_imul (pc' := 69) dX11_multiply_68 rfl ?_
        refine g_iadd (pc' := 70) dX11_multiply_69 rfl ?_
        refine g_iald (pc' := 71) (j := (3 + 4 * x2.toNatClampNeg)) dX11_multiply_70 rfl o160 (by decide) (i14y (c := 3) e2.1) (by have := e2.2; omega) ?_
        refine g_i2l (pc' := 72) dX11_multiply_71 rfl ?_
        refine g_aload_n (pc' := 73) dX11_multiply_72 rfl 0 rfl rfl ?_
        refine g_getR (pc' := 76) (a := 160) dX11_multiply_73 rfl (PLk.lf fX11_7) o159 rfl ?_
        refine g_iconst (pc' := 77) (v := 4) dX11_multiply_76 rfl (by decide) ?_
        refine g_iconst (pc' := 78) (v := 4) dX11_multiply_77 rfl (by decide) ?_
        refine g_iload_n (pc' := 79) dX11_multiply_78 rfl 2 rfl rfl ?_
        refine g_imul (pc' := 80) dX11_multiply_79 rfl ?_
        refine g_iadd (pc' := 81) dX11_multiply_80 rfl ?_
        refine g_iald (pc' := 82) (j := (4 + 4 * x2.toNatClampNeg)) dX11_multiply_81 rfl o160 (by decide) (i14y (c := 4) e2.1) (by have := e2.2; omega) ?_
        refine g_i2l (pc' := 83) dX11_multiply_82 rfl ?_
        refine g_callv (pc' := 86) dX11_multiply_83 rfl mX11_78 (ev_X11_multiplies (x1 := (((sX11_takesFrom x1.toNatClampNeg x1 σ).1) 160 (1 + 4 * x2.toNatClampNeg) : Int32).toInt64) (x2 := (((sX11_takesFrom x1.toNatClampNeg x1 σ).1) 160 (2 + 4 * x2.toNatClampNeg) : Int32).toInt64) (x3 := (((sX11_takesFrom x1.toNatClampNeg x1 σ).1) 160 (3 + 4 * x2.toNatClampNeg) : Int32).toInt64) (x4 := (((sX11_takesFrom x1.toNatClampNeg x1 σ).1) 160 (4 + 4 * x2.toNatClampNeg) : Int32).toInt64) (σ := sX11_takesFrom x1.toNatClampNeg x1 σ)  (d := d + 1)) o159 rfl (rm_ok (by omega) (by decide)) ⟨rfl, rfl⟩ ⟨Nat.zero_le _, Nat.zero_le _⟩ rfl rfl (Nat.le_of_ble_eq_true rfl) ?_
        refine g_aload_n (pc' := 87) dX11_multiply_86 rfl 0 rfl rfl ?_
        refine g_callr (pc' := 90) dX11_multiply_87 rfl mX11_107 (ev_X11_isWell  (σ := sX11_multiplies ((((sX11_takesFrom x1.toNatClampNeg x1 σ).1) 160 (1 + 4 * x2.toNatClampNeg) : Int32).toInt64) ((((sX11_takesFrom x1.toNatClampNeg x1 σ).1) 160 (2 + 4 * x2.toNatClampNeg) : Int32).toInt64) ((((sX11_takesFrom x1.toNatClampNeg x1 σ).1) 160 (3 + 4 * x2.toNatClampNeg) : Int32).toInt64) ((((sX11_takesFrom x1.toNatClampNeg x1 σ).1) 160 (4 + 4 * x2.toNatClampNeg) : Int32).toInt64) (sX11_takesFrom x1.toNatClampNeg x1 σ))  (d := d)) o159 rfl (rm_ok (by omega) (by decide)) ⟨rfl, rfl⟩ ⟨Nat.zero_le _, Nat.zero_le _⟩ rfl rfl (Nat.le_of_ble_eq_true rfl) ?_
        refine g_ifb_eq (pc' := 93) (tgt := 100) dX11_multiply_90 rfl (by decide) (fun (c4 : (rX11_isWell (sX11_multiplies ((((sX11_takesFrom x1.toNatClampNeg x1 σ).1) 160 (1 + 4 * x2.toNatClampNeg) : Int32).toInt64) ((((sX11_takesFrom x1.toNatClampNeg x1 σ).1) 160 (2 + 4 * x2.toNatClampNeg) : Int32).toInt64) ((((sX11_takesFrom x1.toNatClampNeg x1 σ).1) 160 (3 + 4 * x2.toNatClampNeg) : Int32).toInt64) ((((sX11_takesFrom x1.toNatClampNeg x1 σ).1) 160 (4 + 4 * x2.toNatClampNeg) : Int32).toInt64) (sX11_takesFrom x1.toNatClampNeg x1 σ))) = false) => ?_) (fun (c4 : (rX11_isWell (sX11_multiplies ((((sX11_takesFrom x1.toNatClampNeg x1 σ).1) 160 (1 + 4 * x2.toNatClampNeg) : Int32).toInt64) ((((sX11_takesFrom x1.toNatClampNeg x1 σ).1) 160 (2 + 4 * x2.toNatClampNeg) : Int32).toInt64) ((((sX11_takesFrom x1.toNatClampNeg x1 σ).1) 160 (3 + 4 * x2.toNatClampNeg) : Int32).toInt64) ((((sX11_takesFrom x1.toNatClampNeg x1 σ).1) 160 (4 + 4 * x2.toNatClampNeg) : Int32).toInt64) (sX11_takesFrom x1.toNatClampNeg x1 σ))) = true) => ?_)
        · refine g_ldc (pc' := 102) dX11_multiply_100 rfl kX11_115 ?_
          exact g_iret dX11_multiply_102 rfl ⟨rfl, rfl⟩ (by simp only [rX11_multiply, sX11_multiply, if_pos c1, if_pos c2, if_neg c3, if_neg (bf c4), bI_t, bI_f])
        · refine g_aload_n (pc' := 94) dX11_multiply_93 rfl 0 rfl rfl ?_
          refine g_callr (pc' := 97) dX11_multiply_94 rfl mX11_111 (ev_X11_puts (t := t) (n := n) (σ := sX11_multiplies ((((sX11_takesFrom x1.toNatClampNeg x1 σ).1) 160 (1 + 4 * x2.toNatClampNeg) : Int32).toInt64) ((((sX11_takesFrom x1.toNatClampNeg x1 σ).1) 160 (2 + 4 * x2.toNatClampNeg) : Int32).toInt64) ((((sX11_takesFrom x1.toNatClampNeg x1 σ).1) 160 (3 + 4 * x2.toNatClampNeg) : Int32).toInt64) ((((sX11_takesFrom x1.toNatClampNeg x1 σ).1) 160 (4 + 4 * x2.toNatClampNeg) : Int32).toInt64) (sX11_takesFrom x1.toNatClampNeg x1 σ)) hu htt hz n12 (d := d + 1)) o159 rfl (rm_ok (by omega) (by decide)) ⟨rfl, rfl⟩ ⟨Nat.zero_le _, Nat.zero_le _⟩ rfl rfl (Nat.le_of_ble_eq_true rfl) ?_
          refine g_goto (tgt := 102) dX11_multiply_97 (by decide) ?_
          exact g_iret dX11_multiply_102 rfl ⟨rfl, rfl⟩ (by simp only [rX11_multiply, sX11_multiply, if_pos c1, if_pos c2, if_neg c3, if_pos c4, bI_t, bI_f])
      · refine g_ldc (pc' := 32) dX11_multiply_30 rfl kX11_89 ?_
        exact g_iret dX11_multiply_32 rfl ⟨rfl, rfl⟩ (by simp only [rX11_multiply, sX11_multiply, if_pos c1, if_pos c2, if_pos c3, bI_t, bI_f])
    · refine g_ldc (pc' := 18) dX11_multiply_16 rfl kX11_249 ?_
      exact g_iret dX11_multiply_18 rfl ⟨rfl, rfl⟩ (by simp only [rX11_multiply, sX11_multiply, if_pos c1, if_neg (bf c2), bI_t, bI_f])
def rX11_becomes (t : Nat) (s : Nat) (x1 : Int32) (σ : Sg) : Int32 := if (rX11_isWell σ) = true then if (rX11_isAt s x1 (sNo t σ)) = true then 0 else 1 else -1000000003
def sX11_becomes (t : Nat) (s : Nat) (x1 : Int32) (σ : Sg) : Sg := if (rX11_isWell σ) = true then if (rX11_isAt s x1 (sNo t σ)) = true then sX11_laysAt s x1 (sNo t σ) else sX11_laysAt s x1 (sNo t σ) else σ
set_option maxRecDepth 100000 in
set_option maxHeartbeats 4000000 in
theorem ev_X11_becomes {l : Launch} {b : Nat} {cy : Nat → ClassId} {D : va_G} {d : Nat} {t : Nat} {s : Nat} {x1 : Int32} {σ : Sg}  (hu : σ.1 159 2 = nI t) (htt : t ≤ 20) (q1 : x1 = nI s) (hs : s < 12) : Es l b cy D (d + 3) yX11_becomes cX11_becomes (Option.some Jvm.ClassFile.FieldType.int) 3 [.ref (b + 159), .int (x1)] σ (some (.int (rX11_becomes t s x1 σ))) (sX11_becomes t s x1 σ) := by
  refine Ev.of (by decide) (Nat.le_of_ble_eq_true rfl) rfl ?_
  refine g_aload_n (pc' := 1) dX11_becomes_0 rfl 0 rfl rfl ?_
  refine g_callr (pc' := 4) dX11_becomes_1 rfl mX11_107 (ev_X11_isWell  (σ := σ)  (d := d)) o159 rfl (rm_ok (by omega) (by decide)) ⟨rfl, rfl⟩ ⟨Nat.zero_le _, Nat.zero_le _⟩ rfl rfl (Nat.le_of_ble_eq_true rfl) ?_
  refine g_ifb_ne (pc' := 7) (tgt := 10) dX11_becomes_4 rfl (by decide) (fun (c1 : (rX11_isWell σ) = true) => ?_) (fun (c1 : (rX11_isWell σ) = false) => ?_)
  · refine g_aload_n (pc' := 11) dX11_becomes_10 rfl 0 rfl rfl ?_
    refine g_callv (pc' := 14) dX11_becomes_11 rfl mX11_93 (ev_X11_notes (t := t) (σ := σ) hu htt (d := d + 2)) o159 rfl (rm_ok (by omega) (by decide)) ⟨rfl, rfl⟩ ⟨Nat.zero_le _, Nat.zero_le _⟩ rfl rfl (Nat.le_of_ble_eq_true rfl) ?_
    refine g_aload_n (pc' := 15) dX11_becomes_14 rfl 0 rfl rfl ?_
    refine g_iload_n (pc' := 16) dX11_becomes_15 rfl 1 rfl rfl ?_
    refine g_callr (pc' := 19) dX11_becomes_16 rfl mX11_267 (ev_X11_isAt (s := s) (x1 := x1) (σ := sNo t σ) q1 hs (d := d + 2)) o159 rfl (rm_ok (by omega) (by decide)) ⟨rfl, rfl⟩ ⟨Nat.zero_le _, Nat.zero_le _⟩ rfl rfl (Nat.le_of_ble_eq_true rfl) ?_
    refine g_istore_n (pc' := 20) (j := 2) (lv' := [(2, .int (bI (rX11_isAt s x1 (sNo t σ)))), (0, .ref (b + 159)), (1, .int (x1))]) dX11_becomes_19 rfl rfl (by decide) rfl ?_
    refine g_aload_n (pc' := 21) dX11_becomes_20 rfl 1 rfl rfl ?_
    refine g_iload_n (pc' := 22) dX11_becomes_21 rfl 2 rfl rfl ?_
    refine g_callv (pc' := 25) dX11_becomes_22 rfl mX11_96 (ev_X11_laysAt (s := s) (x1 := x1) (σ := sNo t σ) q1 hs (d := d + 2)) o159 rfl (rm_ok (by omega) (by decide)) ⟨rfl, rfl⟩ ⟨Nat.zero_le _, Nat.zero_le _⟩ rfl rfl (Nat.le_of_ble_eq_true rfl) ?_
    refine g_iload_n (pc' := 26) dX11_becomes_25 rfl 0 rfl rfl ?_
    refine g_ifb_eq (pc' := 29) (tgt := 33) dX11_becomes_26 rfl (by decide) (fun (c2 : (rX11_isAt s x1 (sNo t σ)) = false) => ?_) (fun (c2 : (rX11_isAt s x1 (sNo t σ)) = true) => ?_)
    · refine g_iconst (pc' := 34) (v := 1) dX11_becomes_33 rfl (by decide) ?_
      exact g_iret dX11_becomes_34 rfl ⟨rfl, rfl⟩ (by simp only [rX11_becomes, sX11_becomes, if_pos c1, if_neg (bf c2), bI_t, bI_f])
    · refine g_iconst (pc' := 30) (v := 0) dX11_becomes_29 rfl (by decide) ?_
      refine g_goto (tgt := 34) dX11_becomes_30 (by decide) ?_
      exact g_iret dX11_becomes_34 rfl ⟨rfl, rfl⟩ (by simp only [rX11_becomes, sX11_becomes, if_pos c1, if_pos c2, bI_t, bI_f])
  · refine g_ldc (pc' := 9) dX11_becomes_7 rfl kX11_115 ?_
    exact g_iret dX11_becomes_9 rfl ⟨rfl, rfl⟩ (by simp only [rX11_becomes, sX11_becomes, if_neg (bf c1), bI_t, bI_f])
def rX11_back (t : Nat) (n : Nat) (x1 : Int32) (σ : Sg) : Int32 := if (rX11_isSquare x1 σ) = true then rX11_becomes t x1.toNatClampNeg x1 (sX11_takes (((sX11_takesFrom x1.toNatClampNeg x1 σ).2) 159 14) (0 - (((sX11_takesFrom x1.toNatClampNeg x1 σ).2) 159 12)) (0 - (((sX11_takesFrom x1.toNatClampNeg x1 σ).2) 159 13)) (((sX11_takesFrom x1.toNatClampNeg x1 σ).2) 159 11) (sX11_takesFrom x1.toNatClampNeg x1 σ)) else -1000000001
def sX11_back (t : Nat) (n : Nat) (x1 : Int32) (σ : Sg) : Sg := if (rX11_isSquare x1 σ) = true then sX11_becomes t x1.toNatClampNeg x1 (sX11_takes (((sX11_takesFrom x1.toNatClampNeg x1 σ).2) 159 14) (0 - (((sX11_takesFrom x1.toNatClampNeg x1 σ).2) 159 12)) (0 - (((sX11_takesFrom x1.toNatClampNeg x1 σ).2) 159 13)) (((sX11_takesFrom x1.toNatClampNeg x1 σ).2) 159 11) (sX11_takesFrom x1.toNatClampNeg x1 σ)) else σ
set_option maxRecDepth 100000 in
set_option maxHeartbeats 4000000 in
theorem ev_X11_back {l : Launch} {b : Nat} {cy : Nat → ClassId} {D : va_G} {d : Nat} {t : Nat} {n : Nat} {x1 : Int32} {σ : Sg}  (hu : σ.1 159 2 = nI t) (htt : t ≤ 20) (hz : σ.1 160 0 = nI n) (hn : n ≤ 12) : Es l b cy D (d + 4) yX11_back cX11_back (Option.some Jvm.ClassFile.FieldType.int) 2 [.ref (b + 159), .int (x1)] σ (some (.int (rX11_back t n x1 σ))) (sX11_back t n x1 σ) := by
  refine Ev.of (by decide) (Nat.le_of_ble_eq_true rfl) rfl ?_
  refine g_aload_n (pc' := 1) dX11_back_0 rfl 0 rfl rfl ?_
  refine g_iload_n (pc' := 2) dX11_back_1 rfl 1 rfl rfl ?_
  refine g_callr (pc' := 5) dX11_back_2 rfl mX11_234 (ev_X11_isSquare (x1 := x1) (σ := σ)  (d := d + 2)) o159 rfl (rm_ok (by omega) (by decide)) ⟨rfl, rfl⟩ ⟨Nat.zero_le _, Nat.zero_le _⟩ rfl rfl (Nat.le_of_ble_eq_true rfl) ?_
  refine g_ifb_ne (pc' := 8) (tgt := 11) dX11_back_5 rfl (by decide) (fun (c1 : (rX11_isSquare x1 σ) = true) => ?_) (fun (c1 : (rX11_isSquare x1 σ) = false) => ?_)
  · have e1 := isq hz hn c1
    refine g_aload_n (pc' := 12) dX11_back_11 rfl 0 rfl rfl ?_
    refine g_iload_n (pc' := 13) dX11_back_12 rfl 1 rfl rfl ?_
    refine g_callv (pc' := 16) dX11_back_13 rfl mX11_207 (ev_X11_takesFrom (s := x1.toNatClampNeg) (x1 := x1) (σ := σ) e1.1 (Nat.lt_of_lt_of_le e1.2 hn) (d := d + 2)) o159 rfl (rm_ok (by omega) (by decide)) ⟨rfl, rfl⟩ ⟨Nat.zero_le _, Nat.zero_le _⟩ rfl rfl (Nat.le_of_ble_eq_true rfl) ?_
    refine g_aload_n (pc' := 17) dX11_back_16 rfl 0 rfl rfl ?_
    refine g_aload_n (pc' := 18) dX11_back_17 rfl 0 rfl rfl ?_
    refine g_getL (pc' := 21) dX11_back_18 rfl (PLk.lf fX11_67) o159 rfl ?_
    refine g_lconst (pc' := 22) (v := 0) dX11_back_21 rfl (by decide) ?_
    refine g_aload_n (pc' := 23) dX11_back_22 rfl 0 rfl rfl ?_
    refine g_getL (pc' := 26) dX11_back_23 rfl (PLk.lf fX11_61) o159 rfl ?_
    refine g_lsub (pc' := 27) dX11_back_26 rfl ?_
    refine g_lconst (pc' := 28) (v := 0) dX11_back_27 rfl (by decide) ?_
    refine g_aload_n (pc' := 29) dX11_back_28 rfl 0 rfl rfl ?_
    refine g_getL (pc' := 32) dX11_back_29 rfl (PLk.lf fX11_64) o159 rfl ?_
    refine g_lsub (pc' := 33) dX11_back_32 rfl ?_
    refine g_aload_n (pc' := 34) dX11_back_33 rfl 0 rfl rfl ?_
    refine g_getL (pc' := 37) dX11_back_34 rfl (PLk.lf fX11_57) o159 rfl ?_
    refine g_callv (pc' := 40) dX11_back_37 rfl mX11_70 (ev_X11_takes (x1 := ((sX11_takesFrom x1.toNatClampNeg x1 σ).2) 159 14) (x2 := 0 - (((sX11_takesFrom x1.toNatClampNeg x1 σ).2) 159 12)) (x3 := 0 - (((sX11_takesFrom x1.toNatClampNeg x1 σ).2) 159 13)) (x4 := ((sX11_takesFrom x1.toNatClampNeg x1 σ).2) 159 11) (σ := sX11_takesFrom x1.toNatClampNeg x1 σ)  (d := d + 3)) o159 rfl (rm_ok (by omega) (by decide)) ⟨rfl, rfl⟩ ⟨Nat.zero_le _, Nat.zero_le _⟩ rfl rfl (Nat.le_of_ble_eq_true rfl) ?_
    refine g_aload_n (pc' := 41) dX11_back_40 rfl 0 rfl rfl ?_
    refine g_iload_n (pc' := 42) dX11_back_41 rfl 1 rfl rfl ?_
    refine g_callr (pc' := 45) dX11_back_42 rfl mX11_270 (ev_X11_becomes (t := t) (s := x1.toNatClampNeg) (x1 := x1) (σ := sX11_takes (((sX11_takesFrom x1.toNatClampNeg x1 σ).2) 159 14) (0 - (((sX11_takesFrom x1.toNatClampNeg x1 σ).2) 159 12)) (0 - (((sX11_takesFrom x1.toNatClampNeg x1 σ).2) 159 13)) (((sX11_takesFrom x1.toNatClampNeg x1 σ).2) 159 11) (sX11_takesFrom x1.toNatClampNeg x1 σ)) hu htt e1.1 (Nat.lt_of_lt_of_le e1.2 hn) (d := d)) o159 rfl (rm_ok (by omega) (by decide)) ⟨rfl, rfl⟩ ⟨Nat.zero_le _, Nat.zero_le _⟩ rfl rfl (Nat.le_of_ble_eq_true rfl) ?_
    exact g_iret dX11_back_45 rfl ⟨rfl, rfl⟩ (by simp only [rX11_back, sX11_back, if_pos c1, bI_t, bI_f])
  · refine g_ldc (pc' := 10) dX11_back_8 rfl kX11_249 ?_
    exact g_iret dX11_back_10 rfl ⟨rfl, rfl⟩ (by simp only [rX11_back, sX11_back, if_neg (bf c1), bI_t, bI_f])
def rX11_carry (t : Nat) (n : Nat) (x1 : Int32) (x2 : Int32) (σ : Sg) : Int32 := if (rX11_isSquare x1 σ) = true then if (rX11_isSquare x2 σ) = true then rX11_becomes t x1.toNatClampNeg x1 (sX11_multiplies ((((sX11_multiplies ((((sX11_takesFrom x2.toNatClampNeg x2 σ).1) 160 (1 + 4 * x1.toNatClampNeg) : Int32).toInt64) ((((sX11_takesFrom x2.toNatClampNeg x2 σ).1) 160 (2 + 4 * x1.toNatClampNeg) : Int32).toInt64) ((((sX11_takesFrom x2.toNatClampNeg x2 σ).1) 160 (3 + 4 * x1.toNatClampNeg) : Int32).toInt64) ((((sX11_takesFrom x2.toNatClampNeg x2 σ).1) 160 (4 + 4 * x1.toNatClampNeg) : Int32).toInt64) (sX11_takesFrom x2.toNatClampNeg x2 σ)).1) 160 (4 + 4 * x2.toNatClampNeg) : Int32).toInt64) (0 - ((((sX11_multiplies ((((sX11_takesFrom x2.toNatClampNeg x2 σ).1) 160 (1 + 4 * x1.toNatClampNeg) : Int32).toInt64) ((((sX11_takesFrom x2.toNatClampNeg x2 σ).1) 160 (2 + 4 * x1.toNatClampNeg) : Int32).toInt64) ((((sX11_takesFrom x2.toNatClampNeg x2 σ).1) 160 (3 + 4 * x1.toNatClampNeg) : Int32).toInt64) ((((sX11_takesFrom x2.toNatClampNeg x2 σ).1) 160 (4 + 4 * x1.toNatClampNeg) : Int32).toInt64) (sX11_takesFrom x2.toNatClampNeg x2 σ)).1) 160 (2 + 4 * x2.toNatClampNeg) : Int32).toInt64)) (0 - ((((sX11_multiplies ((((sX11_takesFrom x2.toNatClampNeg x2 σ).1) 160 (1 + 4 * x1.toNatClampNeg) : Int32).toInt64) ((((sX11_takesFrom x2.toNatClampNeg x2 σ).1) 160 (2 + 4 * x1.toNatClampNeg) : Int32).toInt64) ((((sX11_takesFrom x2.toNatClampNeg x2 σ).1) 160 (3 + 4 * x1.toNatClampNeg) : Int32).toInt64) ((((sX11_takesFrom x2.toNatClampNeg x2 σ).1) 160 (4 + 4 * x1.toNatClampNeg) : Int32).toInt64) (sX11_takesFrom x2.toNatClampNeg x2 σ)).1) 160 (3 + 4 * x2.toNatClampNeg) : Int32).toInt64)) ((((sX11_multiplies ((((sX11_takesFrom x2.toNatClampNeg x2 σ).1) 160 (1 + 4 * x1.toNatClampNeg) : Int32).toInt64) ((((sX11_takesFrom x2.toNatClampNeg x2 σ).1) 160 (2 + 4 * x1.toNatClampNeg) : Int32).toInt64) ((((sX11_takesFrom x2.toNatClampNeg x2 σ).1) 160 (3 + 4 * x1.toNatClampNeg) : Int32).toInt64) ((((sX11_takesFrom x2.toNatClampNeg x2 σ).1) 160 (4 + 4 * x1.toNatClampNeg) : Int32).toInt64) (sX11_takesFrom x2.toNatClampNeg x2 σ)).1) 160 (1 + 4 * x2.toNatClampNeg) : Int32).toInt64) (sX11_multiplies ((((sX11_takesFrom x2.toNatClampNeg x2 σ).1) 160 (1 + 4 * x1.toNatClampNeg) : Int32).toInt64) ((((sX11_takesFrom x2.toNatClampNeg x2 σ).1) 160 (2 + 4 * x1.toNatClampNeg) : Int32).toInt64) ((((sX11_takesFrom x2.toNatClampNeg x2 σ).1) 160 (3 + 4 * x1.toNatClampNeg) : Int32).toInt64) ((((sX11_takesFrom x2.toNatClampNeg x2 σ).1) 160 (4 + 4 * x1.toNatClampNeg) : Int32).toInt64) (sX11_takesFrom x2.toNatClampNeg x2 σ))) else -1000000001 else -1000000001
def sX11_carry (t : Nat) (n : Nat) (x1 : Int32) (x2 : Int32) (σ : Sg) : Sg := if (rX11_isSquare x1 σ) = true then if (rX11_isSquare x2 σ) = true then sX11_becomes t x1.toNatClampNeg x1 (sX11_multiplies ((((sX11_multiplies ((((sX11_takesFrom x2.toNatClampNeg x2 σ).1) 160 (1 + 4 * x1.toNatClampNeg) : Int32).toInt64) ((((sX11_takesFrom x2.toNatClampNeg x2 σ).1) 160 (2 + 4 * x1.toNatClampNeg) : Int32).toInt64) ((((sX11_takesFrom x2.toNatClampNeg x2 σ).1) 160 (3 + 4 * x1.toNatClampNeg) : Int32).toInt64) ((((sX11_takesFrom x2.toNatClampNeg x2 σ).1) 160 (4 + 4 * x1.toNatClampNeg) : Int32).toInt64) (sX11_takesFrom x2.toNatClampNeg x2 σ)).1) 160 (4 + 4 * x2.toNatClampNeg) : Int32).toInt64) (0 - ((((sX11_multiplies ((((sX11_takesFrom x2.toNatClampNeg x2 σ).1) 160 (1 + 4 * x1.toNatClampNeg) : Int32).toInt64) ((((sX11_takesFrom x2.toNatClampNeg x2 σ).1) 160 (2 + 4 * x1.toNatClampNeg) : Int32).toInt64) ((((sX11_takesFrom x2.toNatClampNeg x2 σ).1) 160 (3 + 4 * x1.toNatClampNeg) : Int32).toInt64) ((((sX11_takesFrom x2.toNatClampNeg x2 σ).1) 160 (4 + 4 * x1.toNatClampNeg) : Int32).toInt64) (sX11_takesFrom x2.toNatClampNeg x2 σ)).1) 160 (2 + 4 * x2.toNatClampNeg) : Int32).toInt64)) (0 - ((((sX11_multiplies ((((sX11_takesFrom x2.toNatClampNeg x2 σ).1) 160 (1 + 4 * x1.toNatClampNeg) : Int32).toInt64) ((((sX11_takesFrom x2.toNatClampNeg x2 σ).1) 160 (2 + 4 * x1.toNatClampNeg) : Int32).toInt64) ((((sX11_takesFrom x2.toNatClampNeg x2 σ).1) 160 (3 + 4 * x1.toNatClampNeg) : Int32).toInt64) ((((sX11_takesFrom x2.toNatClampNeg x2 σ).1) 160 (4 + 4 * x1.toNatClampNeg) : Int32).toInt64) (sX11_takesFrom x2.toNatClampNeg x2 σ)).1) 160 (3 + 4 * x2.toNatClampNeg) : Int32).toInt64)) ((((sX11_multiplies ((((sX11_takesFrom x2.toNatClampNeg x2 σ).1) 160 (1 + 4 * x1.toNatClampNeg) : Int32).toInt64) ((((sX11_takesFrom x2.toNatClampNeg x2 σ).1) 160 (2 + 4 * x1.toNatClampNeg) : Int32).toInt64) ((((sX11_takesFrom x2.toNatClampNeg x2 σ).1) 160 (3 + 4 * x1.toNatClampNeg) : Int32).toInt64) ((((sX11_takesFrom x2.toNatClampNeg x2 σ).1) 160 (4 + 4 * x1.toNatClampNeg) : Int32).toInt64) (sX11_takesFrom x2.toNatClampNeg x2 σ)).1) 160 (1 + 4 * x2.toNatClampNeg) : Int32).toInt64) (sX11_multiplies ((((sX11_takesFrom x2.toNatClampNeg x2 σ).1) 160 (1 + 4 * x1.toNatClampNeg) : Int32).toInt64) ((((sX11_takesFrom x2.toNatClampNeg x2 σ).1) 160 (2 + 4 * x1.toNatClampNeg) : Int32).toInt64) ((((sX11_takesFrom x2.toNatClampNeg x2 σ).1) 160 (3 + 4 * x1.toNatClampNeg) : Int32).toInt64) ((((sX11_takesFrom x2.toNatClampNeg x2 σ).1) 160 (4 + 4 * x1.toNatClampNeg) : Int32).toInt64) (sX11_takesFrom x2.toNatClampNeg x2 σ))) else σ else σ
set_option maxRecDepth 100000 in
set_option maxHeartbeats 4000000 in
theorem ev_X11_carry {l : Launch} {b : Nat} {cy : Nat → ClassId} {D : va_G} {d : Nat} {t : Nat} {n : Nat} {x1 : Int32} {x2 : Int32} {σ : Sg}  (hu : σ.1 159 2 = nI t) (htt : t ≤ 20) (hz : σ.1 160 0 = nI n) (hn : n ≤ 12) : Es l b cy D (d + 4) yX11_carry cX11_carry (Option.some Jvm.ClassFile.FieldType.int) 3 [.ref (b + 159), .int (x1), .int (x2)] σ (some (.int (rX11_carry t n x1 x2 σ))) (sX11_carry t n x1 x2 σ) := by
  refine Ev.of (by decide) (Nat.le_of_ble_eq_true rfl) rfl ?_
  refine g_aload_n (pc' := 1) dX11_carry_0 rfl 0 rfl rfl ?_
  refine g_iload_n (pc' := 2) dX11_carry_1 rfl 1 rfl rfl ?_
  refine g_callr (pc' := 5) dX11_carry_2 rfl mX11_234 (ev_X11_isSquare (x1 := x1) (σ := σ)  (d := d + 2)) o159 rfl (rm_ok (by omega) (by decide)) ⟨rfl, rfl⟩ ⟨Nat.zero_le _, Nat.zero_le _⟩ rfl rfl (Nat.le_of_ble_eq_true rfl) ?_
  refine g_ifb_eq (pc' := 8) (tgt := 16) dX11_carry_5 rfl (by decide) (fun (c1 : (rX11_isSquare x1 σ) = false) => ?_) (fun (c1 : (rX11_isSquare x1 σ) = true) => ?_)
  · refine g_ldc (pc' := 18) dX11_carry_16 rfl kX11_249 ?_
    exact g_iret dX11_carry_18 rfl ⟨rfl, rfl⟩ (by simp only [rX11_carry, sX11_carry, if_neg (bf c1), bI_t, bI_f])
  · refine g_aload_n (pc' := 9) dX11_carry_8 rfl 0 rfl rfl ?_
    refine g_iload_n (pc' := 10) dX11_carry_9 rfl 2 rfl rfl ?_
    refine g_callr (pc' := 13) dX11_carry_10 rfl mX11_234 (ev_X11_isSquare (x1 := x2) (σ := σ)  (d := d + 2)) o159 rfl (rm_ok (by omega) (by decide)) ⟨rfl, rfl⟩ ⟨Nat.zero_le _, Nat.zero_le _⟩ rfl rfl (Nat.le_of_ble_eq_true rfl) ?_
    refine g_ifb_ne (pc' := 16) (tgt := 19) dX11_carry_13 rfl (by decide) (fun (c2 : (rX11_isSquare x2 σ) = true) => ?_) (fun (c2 : (rX11_isSquare x2 σ) = false) => ?_)
    · have e1 := isq hz hn c1
      have e2 := isq hz hn c2
      refine g_aload_n (pc' := 20) dX11_carry_19 rfl 0 rfl rfl ?_
      refine g_iload_n (pc' := 21) dX11_carry_20 rfl 2 rfl rfl ?_
      refine g_callv (pc' := 24) dX11_carry_21 rfl mX11_207 (ev_X11_takesFrom (s := x2.toNatClampNeg) (x1 := x2) (σ := σ) e2.1 (Nat.lt_of_lt_of_le e2.2 hn) (d := d + 2)) o159 rfl (rm_ok (by omega) (by decide)) ⟨rfl, rfl⟩ ⟨Nat.zero_le _, Nat.zero_le _⟩ rfl rfl (Nat.le_of_ble_eq_true rfl) ?_
      refine g_aload_n (pc' := 25) dX11_carry_24 rfl 0 rfl rfl ?_
      refine g_aload_n (pc' := 26) dX11_carry_25 rfl 0 rfl rfl ?_
      refine g_getR (pc' := 29) (a := 160) dX11_carry_26 rfl (PLk.lf fX11_7) o159 rfl ?_
      refine g_iconst (pc' := 30) (v := 1) dX11_carry_29 rfl (by decide) ?_
      refine g_iconst (pc' := 31) (v := 4) dX11_carry_30 rfl (by decide) ?_
      refine g_iload_n (pc' := 32) dX11_carry_31 rfl 1 rfl rfl ?_
      refine g_imul (pc' := 33) dX11_carry_32 rfl ?_
      refine g_iadd (pc' := 34) dX11_carry_33 rfl ?_
      refine g_iald (pc' := 35) (j := (1 + 4 * x1.toNatClampNeg)) dX11_carry_34 rfl o160 (by decide) (i14y (c := 1) e1.1) (by have := e1.2; omega) ?_
      refine g_i2l (pc' := 36) dX11_carry_35 rfl ?_
      refine g_aload_n (pc' := 37) dX11_carry_36 rfl 0 rfl rfl ?_
      refine g_getR (pc' := 40) (a := 160) dX11_carry_37 rfl (PLk.lf fX11_7) o159 rfl ?_
      refine g_iconst (pc' := 41) (v := 2) dX11_carry_40 rfl (by decide) ?_
      refine g_iconst (pc' := 42) (v := 4) dX11_carry_41 rfl (by decide) ?_
      refine g_iload_n (pc' := 43) dX11_carry_42 rfl 1 rfl rfl ?_
      refine g_imul (pc' := 44) dX11_carry_43 rfl ?_
      refine g_iadd (pc' := 45) dX11_carry_44 rfl ?_
      refine g_iald (pc' := 46) (j := (2 + 4 * x1.toNatClampNeg)) dX11_carry_45 rfl o160 (by decide) (i14y (c := 2) e1.1) (by have := e1.2; omega) ?_
      refine g_i2l (pc' := 47) dX11_carry_46 rfl ?_
      refine g_aload_n (pc' := 48) dX11_carry_47 rfl 0 rfl rfl ?_
      refine g_getR (pc' := 51) (a := 160) dX11_carry_48 rfl (PLk.lf fX11_7) o159 rfl ?_
      refine g_iconst (pc' := 52) (v := 3) dX11_carry_51 rfl (by decide) ?_
      refine g_iconst (pc' := 53) (v := 4) dX11_carry_52 rfl (by decide) ?_
      refine g_iload_n (pc' := 54) dX11_carry_53 rfl 1 rfl rfl ?_
      refine g_imul (pc' := 55) dX11_carry_54 rfl ?_
      refine g_iadd (pc' := 56) dX11_carry_55 rfl ?_
      refine g_iald (pc' := 57) (j := (3 + 4 * x1.toNatClampNeg)) dX11_carry_56 rfl o160 (by decide) (i14y (c := 3) e1.1) (by have := e1.2; omega) ?_
      refine g_i2l (pc' := 58) dX11_carry_57 rfl ?_
      refine g_aload_n (pc' := 59) dX11_carry_58 rfl 0 rfl rfl ?_
      refine g_getR (pc' := 62) (a := 160) dX11_carry_59 rfl (PLk.lf fX11_7) o159 rfl ?_
      refine g_iconst (pc' := 63) (v := 4) dX11_carry_62 rfl (by decide) ?_
      refine g_iconst (pc' := 64) (v := 4) dX11_carry_63 rfl (by decide) ?_
      refine g_iload_n (pc' := 65) dX11_carry_64 rfl 1 rfl rfl ?_
      refine g_imul (pc' := 66) dX11_carry_65 rfl ?_
      refine g_iadd (pc' := 67) dX11_carry_66 rfl ?_
      refine g_iald (pc' := 68) (j := (4 + 4 * x1.toNatClampNeg)) dX11_carry_67 rfl o160 (by decide) (i14y (c := 4) e1.1) (by have := e1.2; omega) ?_
      refine g_i2l (pc' := 69) dX11_carry_68 rfl ?_
      refine g_callv (pc' := 72) dX11_carry_69 rfl mX11_78 (ev_X11_multiplies (x1 := (((sX11_takesFrom x2.toNatClampNeg x2 σ).1) 160 (1 + 4 * x1.toNatClampNeg) : Int32).toInt64) (x2 := (((sX11_takesFrom x2.toNatClampNeg x2 σ).1) 160 (2 + 4 * x1.toNatClampNeg) : Int32).toInt64) (x3 := (((sX11_takesFrom x2.toNatClampNeg x2 σ).1) 160 (3 + 4 * x1.toNatClampNeg) : Int32).toInt64) (x4 := (((sX11_takesFrom x2.toNatClampNeg x2 σ).1) 160 (4 + 4 * x1.toNatClampNeg) : Int32).toInt64) (σ := sX11_takesFrom x2.toNatClampNeg x2 σ)  (d := d + 2)) o159 rfl (rm_ok (by omega) (by decide)) ⟨rfl, rfl⟩ ⟨Nat.zero_le _, Nat.zero_le _⟩ rfl rfl (Nat.le_of_ble_eq_true rfl) ?_
      refine g_aload_n (pc' := 73) dX11_carry_72 rfl 0 rfl rfl ?_
      refine g_aload_n (pc' := 74) dX11_carry_73 rfl 0 rfl rfl ?_
      refine g_getR (pc' := 77) (a := 160) dX11_carry_74 rfl (PLk.lf fX11_7) o159 rfl ?_
      refine g_iconst (pc' := 78) (v := 4) dX11_carry_77 rfl (by decide) ?_
      refine g_iconst (pc' := 79) (v := 4) dX11_carry_78 rfl (by decide) ?_
      refine g_iload_n (pc' := 80) dX11_carry_79 rfl 2 rfl rfl ?_
      refine g_imul (pc' := 81) dX11_carry_80 rfl ?_
      refine g_iadd (pc' := 82) dX11_carry_81 rfl ?_
      refine g_iald (pc' := 83) (j := (4 + 4 * x2.toNatClampNeg)) dX11_carry_82 rfl o160 (by decide) (i14y (c := 4) e2.1) (by have := e2.2; omega) ?_
      refine g_i2l (pc' := 84) dX11_carry_83 rfl ?_
      refine g_lconst (pc' := 85) (v := 0) dX11_carry_84 rfl (by decide) ?_
      refine g_aload_n (pc' := 86) dX11_carry_85 rfl 0 rfl rfl ?_
      refine g_getR (pc' := 89) (a := 160) dX11_carry_86 rfl (PLk.lf fX11_7) o159 rfl ?_
      refine g_iconst (pc' := 90) (v := 2) dX11_carry_89 rfl (by decide) ?_
      refine g_iconst (pc' := 91) (v := 4) dX11_carry_90 rfl (by decide) ?_
      refine g_iload_n (pc' := 92) dX11_carry_91 rfl 2 rfl rfl ?_
      refine g_imul (pc' := 93) dX11_carry_92 rfl ?_
      refine g_iadd (pc' := 94) dX11_carry_93 rfl ?_
      refine g_iald (pc' := 95) (j := (2 + 4 * x2.toNatClampNeg)) dX11_carry_94 rfl o160 (by decide) (i14y (c := 2) e2.1) (by have := e2.2; omega) ?_
      refine g_i2l (pc' := 96) dX11_carry_95 rfl ?_
      refine g_lsub (pc' := 97) dX11_carry_96 rfl ?_
      refine g_lconst (pc' := 98) (v := 0) dX11_carry_97 rfl (by decide) ?_
      refine g_aload_n (pc' := 99) dX11_carry_98 rfl 0 rfl rfl ?_
      refine g_getR (pc' := 102) (a := 160) dX11_carry_99 rfl (PLk.lf fX11_7) o159 rfl ?_
      refine g_iconst (pc' := 103) (v := 3) dX11_carry_102 rfl (by decide) ?_
      refine g_iconst (pc' := 104) (v := 4) dX11_carry_103 rfl (by decide) ?_
      refine g_iload_n (pc' := 105) dX11_carry_104 rfl 2 rfl rfl ?_
      refine g_imul (pc' := 106) dX11_carry_105 rfl ?_
      refine g_iadd (pc' := 107) dX11_carry_106 rfl ?_
      refine g_iald (pc' := 108) (j := (3 + 4 * x2.toNatClampNeg)) dX11_carry_107 rfl o160 (by decide) (i14y (c := 3) e2.1) (by have := e2.2; omega) ?_
      refine g_i2l (pc' := 109) dX11_carry_108 rfl ?_
      refine g_lsub (pc' := 110) dX11_carry_109 rfl ?_
      refine g_aload_n (pc' := 111) dX11_carry_110 rfl 0 rfl rfl ?_
      refine g_getR (pc' := 114) (a := 160) dX11_carry_111 rfl (PLk.lf fX11_7) o159 rfl ?_
      refine g_iconst (pc' := 115) (v := 1) dX11_carry_114 rfl (by decide) ?_
      refine g_iconst (pc' := 116) (v := 4) dX11_carry_115 rfl (by decide) ?_
      refine g_iload_n (pc' := 117) dX11_carry_116 rfl 2 rfl rfl ?_
      refine g_imul (pc' := 118) dX11_carry_117 rfl ?_
      refine g_iadd (pc' := 119) dX11_carry_118 rfl ?_
      refine g_iald (pc' := 120) (j := (1 + 4 * x2.toNatClampNeg)) dX11_carry_119 rfl o160 (by decide) (i14y (c := 1) e2.1) (by have := e2.2; omega) ?_
      refine g_i2l (pc' := 121) dX11_carry_120 rfl ?_
      refine g_callv (pc' := 124) dX11_carry_121 rfl mX11_78 (ev_X11_multiplies (x1 := (((sX11_multiplies ((((sX11_takesFrom x2.toNatClampNeg x2 σ).1) 160 (1 + 4 * x1.toNatClampNeg) : Int32).toInt64) ((((sX11_takesFrom x2.toNatClampNeg x2 σ).1) 160 (2 + 4 * x1.toNatClampNeg) : Int32).toInt64) ((((sX11_takesFrom x2.toNatClampNeg x2 σ).1) 160 (3 + 4 * x1.toNatClampNeg) : Int32).toInt64) ((((sX11_takesFrom x2.toNatClampNeg x2 σ).1) 160 (4 + 4 * x1.toNatClampNeg) : Int32).toInt64) (sX11_takesFrom x2.toNatClampNeg x2 σ)).1) 160 (4 + 4 * x2.toNatClampNeg) : Int32).toInt64) (x2 := 0 - ((((sX11_multiplies ((((sX11_takesFrom x2.toNatClampNeg x2 σ).1) 160 (1 + 4 * x1.toNatClampNeg) : Int32).toInt64) ((((sX11_takesFrom x2.toNatClampNeg x2 σ).1) 160 (2 + 4 * x1.toNatClampNeg) : Int32).toInt64) ((((sX11_takesFrom x2.toNatClampNeg x2 σ).1) 160 (3 + 4 * x1.toNatClampNeg) : Int32).toInt64) ((((sX11_takesFrom x2.toNatClampNeg x2 σ).1) 160 (4 + 4 * x1.toNatClampNeg) : Int32).toInt64) (sX11_takesFrom x2.toNatClampNeg x2 σ)).1) 160 (2 + 4 * x2.toNatClampNeg) : Int32).toInt64)) (x3 := 0 - ((((sX11_multiplies ((((sX11_takesFrom x2.toNatClampNeg x2 σ).1) 160 (1 + 4 * x1.toNatClampNeg) : Int32).toInt64) ((((sX11_takesFrom x2.toNatClampNeg x2 σ).1) 160 (2 + 4 * x1.toNatClampNeg) : Int32).toInt64) ((((sX11_takesFrom x2.toNatClampNeg x2 σ).1) 160 (3 + 4 * x1.toNatClampNeg) : Int32).toInt64) ((((sX11_takesFrom x2.toNatClampNeg x2 σ).1) 160 (4 + 4 * x1.toNatClampNeg) : Int32).toInt64) (sX11_takesFrom x2.toNatClampNeg x2 σ)).1) 160 (3 + 4 * x2.toNatClampNeg) : Int32).toInt64)) (x4 := (((sX11_multiplies ((((sX11_takesFrom x2.toNatClampNeg x2 σ).1) 160 (1 + 4 * x1.toNatClampNeg) : Int32).toInt64) ((((sX11_takesFrom x2.toNatClampNeg x2 σ).1) 160 (2 + 4 * x1.toNatClampNeg) : Int32).toInt64) ((((sX11_takesFrom x2.toNatClampNeg x2 σ).1) 160 (3 + 4 * x1.toNatClampNeg) : Int32).toInt64) ((((sX11_takesFrom x2.toNatClampNeg x2 σ).1) 160 (4 + 4 * x1.toNatClampNeg) : Int32).toInt64) (sX11_takesFrom x2.toNatClampNeg x2 σ)).1) 160 (1 + 4 * x2.toNatClampNeg) : Int32).toInt64) (σ := sX11_multiplies ((((sX11_takesFrom x2.toNatClampNeg x2 σ).1) 160 (1 + 4 * x1.toNatClampNeg) : Int32).toInt64) ((((sX11_takesFrom x2.toNatClampNeg x2 σ).1) 160 (2 + 4 * x1.toNatClampNeg) : Int32).toInt64) ((((sX11_takesFrom x2.toNatClampNeg x2 σ).1) 160 (3 + 4 * x1.toNatClampNeg) : Int32).toInt64) ((((sX11_takesFrom x2.toNatClampNeg x2 σ).1) 160 (4 + 4 * x1.toNatClampNeg) : Int32).toInt64) (sX11_takesFrom x2.toNatClampNeg x2 σ))  (d := d + 2)) o159 rfl (rm_ok (by omega) (by decide)) ⟨rfl, rfl⟩ ⟨Nat.zero_le _, Nat.zero_le _⟩ rfl rfl (Nat.le_of_ble_eq_true rfl) ?_
      refine g_aload_n (pc' := 125) dX11_carry_124 rfl 0 rfl rfl ?_
      refine g_iload_n (pc' := 126) dX11_carry_125 rfl 1 rfl rfl ?_
      refine g_callr (pc' := 129) dX11_carry_126 rfl mX11_270 (ev_X11_becomes (t := t) (s := x1.toNatClampNeg) (x1 := x1) (σ := sX11_multiplies ((((sX11_multiplies ((((sX11_takesFrom x2.toNatClampNeg x2 σ).1) 160 (1 + 4 * x1.toNatClampNeg) : Int32).toInt64) ((((sX11_takesFrom x2.toNatClampNeg x2 σ).1) 160 (2 + 4 * x1.toNatClampNeg) : Int32).toInt64) ((((sX11_takesFrom x2.toNatClampNeg x2 σ).1) 160 (3 + 4 * x1.toNatClampNeg) : Int32).toInt64) ((((sX11_takesFrom x2.toNatClampNeg x2 σ).1) 160 (4 + 4 * x1.toNatClampNeg) : Int32).toInt64) (sX11_takesFrom x2.toNatClampNeg x2 σ)).1) 160 (4 + 4 * x2.toNatClampNeg) : Int32).toInt64) (0 - ((((sX11_multiplies ((((sX11_takesFrom x2.toNatClampNeg x2 σ).1) 160 (1 + 4 * x1.toNatClampNeg) : Int32).toInt64) ((((sX11_takesFrom x2.toNatClampNeg x2 σ).1) 160 (2 + 4 * x1.toNatClampNeg) : Int32).toInt64) ((((sX11_takesFrom x2.toNatClampNeg x2 σ).1) 160 (3 + 4 * x1.toNatClampNeg) : Int32).toInt64) ((((sX11_takesFrom x2.toNatClampNeg x2 σ).1) 160 (4 + 4 * x1.toNatClampNeg) : Int32).toInt64) (sX11_takesFrom x2.toNatClampNeg x2 σ)).1) 160 (2 + 4 * x2.toNatClampNeg) : Int32).toInt64)) (0 - ((((sX11_multiplies ((((sX11_takesFrom x2.toNatClampNeg x2 σ).1) 160 (1 + 4 * x1.toNatClampNeg) : Int32).toInt64) ((((sX11_takesFrom x2.toNatClampNeg x2 σ).1) 160 (2 + 4 * x1.toNatClampNeg) : Int32).toInt64) ((((sX11_takesFrom x2.toNatClampNeg x2 σ).1) 160 (3 + 4 * x1.toNatClampNeg) : Int32).toInt64) ((((sX11_takesFrom x2.toNatClampNeg x2 σ).1) 160 (4 + 4 * x1.toNatClampNeg) : Int32).toInt64) (sX11_takesFrom x2.toNatClampNeg x2 σ)).1) 160 (3 + 4 * x2.toNatClampNeg) : Int32).toInt64)) ((((sX11_multiplies ((((sX11_takesFrom x2.toNatClampNeg x2 σ).1) 160 (1 + 4 * x1.toNatClampNeg) : Int32).toInt64) ((((sX11_takesFrom x2.toNatClampNeg x2 σ).1) 160 (2 + 4 * x1.toNatClampNeg) : Int32).toInt64) ((((sX11_takesFrom x2.toNatClampNeg x2 σ).1) 160 (3 + 4 * x1.toNatClampNeg) : Int32).toInt64) ((((sX11_takesFrom x2.toNatClampNeg x2 σ).1) 160 (4 + 4 * x1.toNatClampNeg) : Int32).toInt64) (sX11_takesFrom x2.toNatClampNeg x2 σ)).1) 160 (1 + 4 * x2.toNatClampNeg) : Int32).toInt64) (sX11_multiplies ((((sX11_takesFrom x2.toNatClampNeg x2 σ).1) 160 (1 + 4 * x1.toNatClampNeg) : Int32).toInt64) ((((sX11_takesFrom x2.toNatClampNeg x2 σ).1) 160 (2 + 4 * x1.toNatClampNeg) : Int32).toInt64) ((((sX11_takesFrom x2.toNatClampNeg x2 σ).1) 160 (3 + 4 * x1.toNatClampNeg) : Int32).toInt64) ((((sX11_takesFrom x2.toNatClampNeg x2 σ).1) 160 (4 + 4 * x1.toNatClampNeg) : Int32).toInt64) (sX11_takesFrom x2.toNatClampNeg x2 σ))) hu htt e1.1 (Nat.lt_of_lt_of_le e1.2 hn) (d := d)) o159 rfl (rm_ok (by omega) (by decide)) ⟨rfl, rfl⟩ ⟨Nat.zero_le _, Nat.zero_le _⟩ rfl rfl (Nat.le_of_ble_eq_true rfl) ?_
      exact g_iret dX11_carry_129 rfl ⟨rfl, rfl⟩ (by simp only [rX11_carry, sX11_carry, if_pos c1, if_pos c2, bI_t, bI_f])
    · refine g_ldc (pc' := 18) dX11_carry_16 rfl kX11_249 ?_
      exact g_iret dX11_carry_18 rfl ⟨rfl, rfl⟩ (by simp only [rX11_carry, sX11_carry, if_pos c1, if_neg (bf c2), bI_t, bI_f])
end
