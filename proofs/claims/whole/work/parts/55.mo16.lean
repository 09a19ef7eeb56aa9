noncomputable section
def rX11_pair (n : Nat) (x1 : Int32) (x2 : Int32) (x3 : Int32) (σ : Sg) : Int32 := if (rX11_isSquare x1 σ) = true then if (rX11_isSquare x2 σ) = true then if (rX11_in ((x3 : Int32).toInt64) 0 2 σ) = true then if (x3 : Int32) = 2 then rX11_beginsOf n x1.toNatClampNeg x2.toNatClampNeg x1 x2 σ else if (x3 : Int32) = 0 then if (rX11_areAlike n x1.toNatClampNeg x2.toNatClampNeg x1 x2 σ) = true then 1 else 0 else if (rX11_goTogether x1.toNatClampNeg x2.toNatClampNeg x1 x2 σ) = true then 1 else 0 else -1000000002 else -1000000001 else -1000000001
def sX11_pair (n : Nat) (x1 : Int32) (x2 : Int32) (x3 : Int32) (σ : Sg) : Sg := if (rX11_isSquare x1 σ) = true then if (rX11_isSquare x2 σ) = true then if (rX11_in ((x3 : Int32).toInt64) 0 2 σ) = true then if (x3 : Int32) = 2 then sX11_beginsOf n x1.toNatClampNeg x2.toNatClampNeg x1 x2 σ else if (x3 : Int32) = 0 then if (rX11_areAlike n x1.toNatClampNeg x2.toNatClampNeg x1 x2 σ) = true then sX11_areAlike n x1.toNatClampNeg x2.toNatClampNeg x1 x2 σ else sX11_areAlike n x1.toNatClampNeg x2.toNatClampNeg x1 x2 σ else if (rX11_goTogether x1.toNatClampNeg x2.toNatClampNeg x1 x2 σ) = true then sX11_goTogether x1.toNatClampNeg x2.toNatClampNeg x1 x2 σ else sX11_goTogether x1.toNatClampNeg x2.toNatClampNeg x1 x2 σ else σ else σ else σ
set_option maxRecDepth 100000 in
set_option maxHeartbeats 4000000 in
theorem ev_X11_pair {l : Launch} {b : Nat} {cy : Nat → ClassId} {D : va_G} {d : Nat} {n : Nat} {x1 : Int32} {x2 : Int32} {x3 : Int32} {σ : Sg}  (hN : NowOk (σ.1 160) n) (hn : n ≤ 12) (hz : σ.1 160 0 = nI n) : Es l b cy D (d + 7) yX11_pair cX11_pair (Option.some Jvm.ClassFile.FieldType.int) 5 [.ref (b + 159), .int (x1), .int (x2), .int (x3)] σ (some (.int (rX11_pair n x1 x2 x3 σ))) (sX11_pair n x1 x2 x3 σ) := by
  refine Ev.of (by decide) (Nat.le_of_ble_eq_true rfl) rfl ?_
  refine g_aload_n (pc' := 1) dX11_pair_0 rfl 0 rfl rfl ?_
  refine g_iload_n (pc' := 2) dX11_pair_1 rfl 1 rfl rfl ?_
  refine g_callr (pc' := 5) dX11_pair_2 rfl mX11_234 (ev_X11_isSquare (x1 := x1) (σ := σ)  (d := d + 5)) o159 rfl (rm_ok (by omega) (by decide)) ⟨rfl, rfl⟩ ⟨Nat.zero_le _, Nat.zero_le _⟩ rfl rfl (Nat.le_of_ble_eq_true rfl) ?_
  refine g_ifb_eq (pc' := 8) (tgt := 16) dX11_pair_5 rfl (by decide) (fun (c1 : (rX11_isSquare x1 σ) = false) => ?_) (fun (c1 : (rX11_isSquare x1 σ) = true) => ?_)
  · refine g_ldc (pc' := 18) dX11_pair_16 rfl kX11_249 ?_
    exact g_iret dX11_pair_18 rfl ⟨rfl, rfl⟩ (by simp only [rX11_pair, sX11_pair, if_neg (bf c1), bI_t, bI_f])
  · refine g_aload_n (pc' := 9) dX11_pair_8 rfl 0 rfl rfl ?_
    refine g_iload_n (pc' := 10) dX11_pair_9 rfl 2 rfl rfl ?_
    refine g_callr (pc' := 13) dX11_pair_10 rfl mX11_234 (ev_X11_isSquare (x1 := x2) (σ := σ)  (d := d + 5)) o159 rfl (rm_ok (by omega) (by decide)) ⟨rfl, rfl⟩ ⟨Nat.zero_le _, Nat.zero_le _⟩ rfl rfl (Nat.le_of_ble_eq_true rfl) ?_
    refine g_ifb_ne (pc' := 16) (tgt := 19) dX11_pair_13 rfl (by decide) (fun (c2 : (rX11_isSquare x2 σ) = true) => ?_) (fun (c2 : (rX11_isSquare x2 σ) = false) => ?_)
    · have e1 := isq hz hn c1
      have e2 := isq hz hn c2
      refine g_iload_n (pc' := 20) dX11_pair_19 rfl 3 rfl rfl ?_
      refine g_i2l (pc' := 21) dX11_pair_20 rfl ?_
      refine g_lconst (pc' := 22) (v := 0) dX11_pair_21 rfl (by decide) ?_
      refine g_ldc2 (pc' := 25) dX11_pair_22 rfl kX11_134 ?_
      refine g_callsr (pc' := 28) dX11_pair_25 rfl mX11_53 (ev_X11_in (x1 := (x3 : Int32).toInt64) (x2 := 0) (x3 := 2) (σ := σ)  (d := d + 6)) (rm_ok (by omega) (by decide)) ⟨rfl, rfl⟩ ⟨Nat.zero_le _, Nat.zero_le _⟩ rfl rfl (Nat.le_of_ble_eq_true rfl) ?_
      refine g_ifb_ne (pc' := 31) (tgt := 34) dX11_pair_28 rfl (by decide) (fun (c3 : (rX11_in ((x3 : Int32).toInt64) 0 2 σ) = true) => ?_) (fun (c3 : (rX11_in ((x3 : Int32).toInt64) 0 2 σ) = false) => ?_)
      · refine g_iload_n (pc' := 35) dX11_pair_34 rfl 3 rfl rfl ?_
        refine g_iconst (pc' := 36) (v := 2) dX11_pair_35 rfl (by decide) ?_
        refine g_icmp_ne (pc' := 39) (tgt := 46) dX11_pair_36 rfl (by decide) (fun (c4 : ¬ (x3 : Int32) = 2) => ?_) (fun (c4 : (x3 : Int32) = 2) => ?_)
        · refine g_iload_n (pc' := 47) dX11_pair_46 rfl 3 rfl rfl ?_
          refine g_if_ne (pc' := 50) (tgt := 59) dX11_pair_47 rfl (by decide) (fun (c5 : ¬ (x3 : Int32) = 0) => ?_) (fun (c5 : (x3 : Int32) = 0) => ?_)
          · refine g_aload_n (pc' := 60) dX11_pair_59 rfl 0 rfl rfl ?_
            refine g_iload_n (pc' := 61) dX11_pair_60 rfl 1 rfl rfl ?_
            refine g_iload_n (pc' := 62) dX11_pair_61 rfl 2 rfl rfl ?_
            refine g_callr (pc' := 65) dX11_pair_62 rfl mX11_296 (ev_X11_goTogether (s := x1.toNatClampNeg) (u := x2.toNatClampNeg) (x1 := x1) (x2 := x2) (σ := σ) e1.1 (Nat.lt_of_lt_of_le e1.2 hn) e2.1 (Nat.lt_of_lt_of_le e2.2 hn) (d := d + 4)) o159 rfl (rm_ok (by omega) (by decide)) ⟨rfl, rfl⟩ ⟨Nat.zero_le _, Nat.zero_le _⟩ rfl rfl (Nat.le_of_ble_eq_true rfl) ?_
            refine g_istore (pc' := 67) (j := 4) (lv' := [(4, .int (bI (rX11_goTogether x1.toNatClampNeg x2.toNatClampNeg x1 x2 σ))), (0, .ref (b + 159)), (1, .int (x1)), (2, .int (x2)), (3, .int (x3))]) dX11_pair_65 rfl (by decide) rfl ?_
            refine g_iload (pc' := 69) dX11_pair_67 rfl 0 rfl ?_
            refine g_ifb_eq (pc' := 72) (tgt := 76) dX11_pair_69 rfl (by decide) (fun (c6 : (rX11_goTogether x1.toNatClampNeg x2.toNatClampNeg x1 x2 σ) = false) => ?_) (fun (c6 : (rX11_goTogether x1.toNatClampNeg x2.toNatClampNeg x1 x2 σ) = true) => ?_)
            · refine g_iconst (pc' := 77) (v := 0) dX11_pair_76 rfl (by decide) ?_
              exact g_iret dX11_pair_77 rfl ⟨rfl, rfl⟩ (by simp only [rX11_pair, sX11_pair, if_pos c1, if_pos c2, if_pos c3, if_neg c4, if_neg c5, if_neg (bf c6), bI_t, bI_f])
            · refine g_iconst (pc' := 73) (v := 1) dX11_pair_72 rfl (by decide) ?_
              refine g_goto (tgt := 77) dX11_pair_73 (by decide) ?_
              exact g_iret dX11_pair_77 rfl ⟨rfl, rfl⟩ (by simp only [rX11_pair, sX11_pair, if_pos c1, if_pos c2, if_pos c3, if_neg c4, if_neg c5, if_pos c6, bI_t, bI_f])
          · refine g_aload_n (pc' := 51) dX11_pair_50 rfl 0 rfl rfl ?_
            refine g_iload_n (pc' := 52) dX11_pair_51 rfl 1 rfl rfl ?_
            refine g_iload_n (pc' := 53) dX11_pair_52 rfl 2 rfl rfl ?_
            refine g_callr (pc' := 56) dX11_pair_53 rfl mX11_237 (ev_X11_areAlike (n := n) (s := x1.toNatClampNeg) (u := x2.toNatClampNeg) (x1 := x1) (x2 := x2) (σ := σ) hN hn e1.1 e1.2 e2.1 e2.2 (d := d + 1)) o159 rfl (rm_ok (by omega) (by decide)) ⟨rfl, rfl⟩ ⟨Nat.zero_le _, Nat.zero_le _⟩ rfl rfl (Nat.le_of_ble_eq_true rfl) ?_
            refine g_goto (tgt := 65) dX11_pair_56 (by decide) ?_
            refine g_istore (pc' := 67) (j := 4) (lv' := [(4, .int (bI (rX11_areAlike n x1.toNatClampNeg x2.toNatClampNeg x1 x2 σ))), (0, .ref (b + 159)), (1, .int (x1)), (2, .int (x2)), (3, .int (x3))]) dX11_pair_65 rfl (by decide) rfl ?_
            refine g_iload (pc' := 69) dX11_pair_67 rfl 0 rfl ?_
            refine g_ifb_eq (pc' := 72) (tgt := 76) dX11_pair_69 rfl (by decide) (fun (c7 : (rX11_areAlike n x1.toNatClampNeg x2.toNatClampNeg x1 x2 σ) = false) => ?_) (fun (c7 : (rX11_areAlike n x1.toNatClampNeg x2.toNatClampNeg x1 x2 σ) = true) => ?_)
            · refine g_iconst (pc' := 77) (v := 0) dX11_pair_76 rfl (by decide) ?_
              exact g_iret dX11_pair_77 rfl ⟨rfl, rfl⟩ (by simp only [rX11_pair, sX11_pair, if_pos c1, if_pos c2, if_pos c3, if_neg c4, if_pos c5, if_neg (bf c7), bI_t, bI_f])
            · refine g_iconst (pc' := 73) (v := 1) dX11_pair_72 rfl (by decide) ?_
              refine g_goto (tgt := 77) dX11_pair_73 (by decide) ?_
              exact g_iret dX11_pair_77 rfl ⟨rfl, rfl⟩ (by simp only [rX11_pair, sX11_pair, if_pos c1, if_pos c2, if_pos c3, if_neg c4, if_pos c5, if_pos c7, bI_t, bI_f])
        · refine g_aload_n (pc' := 40) dX11_pair_39 rfl 0 rfl rfl ?_
          refine g_iload_n (pc' := 41) dX11_pair_40 rfl 1 rfl rfl ?_
          refine g_iload_n (pc' := 42) dX11_pair_41 rfl 2 rfl rfl ?_
          refine g_callr (pc' := 45) dX11_pair_42 rfl mX11_293 (ev_X11_beginsOf (n := n) (s := x1.toNatClampNeg) (u := x2.toNatClampNeg) (x1 := x1) (x2 := x2) (σ := σ) hN hn e1.1 e1.2 e2.1 e2.2 (d := d)) o159 rfl (rm_ok (by omega) (by decide)) ⟨rfl, rfl⟩ ⟨Nat.zero_le _, Nat.zero_le _⟩ rfl rfl (Nat.le_of_ble_eq_true rfl) ?_
          exact g_iret dX11_pair_45 rfl ⟨rfl, rfl⟩ (by simp only [rX11_pair, sX11_pair, if_pos c1, if_pos c2, if_pos c3, if_pos c4, bI_t, bI_f])
      · refine g_ldc (pc' := 33) dX11_pair_31 rfl kX11_85 ?_
        exact g_iret dX11_pair_33 rfl ⟨rfl, rfl⟩ (by simp only [rX11_pair, sX11_pair, if_pos c1, if_pos c2, if_neg (bf c3), bI_t, bI_f])
    · refine g_ldc (pc' := 18) dX11_pair_16 rfl kX11_249 ?_
      exact g_iret dX11_pair_18 rfl ⟨rfl, rfl⟩ (by simp only [rX11_pair, sX11_pair, if_pos c1, if_neg (bf c2), bI_t, bI_f])
def rX11_note (n : Nat) (e : Nat) (x1 : Int32) (x2 : Int32) (x3 : Bool) (σ : Sg) : Int32 := if (rX11_isSquare x1 σ) = true then if (rX11_isSquare x2 σ) = true then if (σ.1 159 10 : Int32) = 20 then -1000000004 else if x3 = true then (u2 (u2 (u2 (u2 σ.1 165 (3 * e) x1) 165 (3 * e + 1) x2) 165 (3 * e + 2) 1) 159 10 (((u2 (u2 (u2 σ.1 165 (3 * e) x1) 165 (3 * e + 1) x2) 165 (3 * e + 2) 1) 159 10) + 1)) 159 10 else (u2 (u2 (u2 (u2 σ.1 165 (3 * e) x1) 165 (3 * e + 1) x2) 165 (3 * e + 2) 0) 159 10 (((u2 (u2 (u2 σ.1 165 (3 * e) x1) 165 (3 * e + 1) x2) 165 (3 * e + 2) 0) 159 10) + 1)) 159 10 else -1000000001 else -1000000001
def sX11_note (n : Nat) (e : Nat) (x1 : Int32) (x2 : Int32) (x3 : Bool) (σ : Sg) : Sg := if (rX11_isSquare x1 σ) = true then if (rX11_isSquare x2 σ) = true then if (σ.1 159 10 : Int32) = 20 then σ else if x3 = true then (u2 (u2 (u2 (u2 σ.1 165 (3 * e) x1) 165 (3 * e + 1) x2) 165 (3 * e + 2) 1) 159 10 (((u2 (u2 (u2 σ.1 165 (3 * e) x1) 165 (3 * e + 1) x2) 165 (3 * e + 2) 1) 159 10) + 1), σ.2) else (u2 (u2 (u2 (u2 σ.1 165 (3 * e) x1) 165 (3 * e + 1) x2) 165 (3 * e + 2) 0) 159 10 (((u2 (u2 (u2 σ.1 165 (3 * e) x1) 165 (3 * e + 1) x2) 165 (3 * e + 2) 0) 159 10) + 1), σ.2) else σ else σ
set_option maxRecDepth 100000 in
set_option maxHeartbeats 4000000 in
theorem ev_X11_note {l : Launch} {b : Nat} {cy : Nat → ClassId} {D : va_G} {d : Nat} {n : Nat} {e : Nat} {x1 : Int32} {x2 : Int32} {x3 : Bool} {σ : Sg}  (hz : σ.1 160 0 = nI n) (hn : n ≤ 12) (he : σ.1 159 10 = nI e) (hel : e ≤ 20) : Es l b cy D (d + 2) yX11_note cX11_note (Option.some Jvm.ClassFile.FieldType.int) 4 [.ref (b + 159), .int (x1), .int (x2), .int (bI (x3))] σ (some (.int (rX11_note n e x1 x2 x3 σ))) (sX11_note n e x1 x2 x3 σ) := by
  refine Ev.of (by decide) (Nat.le_of_ble_eq_true rfl) rfl ?_
  refine g_aload_n (pc' := 1) dX11_note_0 rfl 0 rfl rfl ?_
  refine g_iload_n (pc' := 2) dX11_note_1 rfl 1 rfl rfl ?_
  refine g_callr (pc' := 5) dX11_note_2 rfl mX11_234 (ev_X11_isSquare (x1 := x1) (σ := σ)  (d := d)) o159 rfl (rm_ok (by omega) (by decide)) ⟨rfl, rfl⟩ ⟨Nat.zero_le _, Nat.zero_le _⟩ rfl rfl (Nat.le_of_ble_eq_true rfl) ?_
  refine g_ifb_eq (pc' := 8) (tgt := 16) dX11_note_5 rfl (by decide) (fun (c1 : (rX11_isSquare x1 σ) = false) => ?_) (fun (c1 : (rX11_isSquare x1 σ) = true) => ?_)
  · refine g_ldc (pc' := 18) dX11_note_16 rfl kX11_249 ?_
    exact g_iret dX11_note_18 rfl ⟨rfl, rfl⟩ (by simp only [rX11_note, sX11_note, if_neg (bf c1), bI_t, bI_f])
  · refine g_aload_n (pc' := 9) dX11_note_8 rfl 0 rfl rfl ?_
    refine g_iload_n (pc' := 10) dX11_note_9 rfl 2 rfl rfl ?_
    refine g_callr (pc' := 13) dX11_note_10 rfl mX11_234 (ev_X11_isSquare (x1 := x2) (σ := σ)  (d := d)) o159 rfl (rm_ok (by omega) (by decide)) ⟨rfl, rfl⟩ ⟨Nat.zero_le _, Nat.zero_le _⟩ rfl rfl (Nat.le_of_ble_eq_true rfl) ?_
    refine g_ifb_ne (pc' := 16) (tgt := 19) dX11_note_13 rfl (by decide) (fun (c2 : (rX11_isSquare x2 σ) = true) => ?_) (fun (c2 : (rX11_isSquare x2 σ) = false) => ?_)
    · refine g_aload_n (pc' := 20) dX11_note_19 rfl 0 rfl rfl ?_
      refine g_getI (pc' := 23) dX11_note_20 rfl (PLk.lf fX11_231) o159 rfl ?_
      refine g_bipush (pc' := 25) (v := 20) dX11_note_23 rfl (by decide) ?_
      refine g_icmp_ne (pc' := 28) (tgt := 31) dX11_note_25 rfl (by decide) (fun (c3 : ¬ (σ.1 159 10 : Int32) = 20) => ?_) (fun (c3 : (σ.1 159 10 : Int32) = 20) => ?_)
      · have e20 : e < 20 := ltne (N := 20) he hel c3
        refine g_aload_n (pc' := 32) dX11_note_31 rfl 0 rfl rfl ?_
        refine g_getR (pc' := 35) (a := 165) dX11_note_32 rfl (PLk.lf fX11_30) o159 rfl ?_
        refine g_iconst (pc' := 36) (v := 3) dX11_note_35 rfl (by decide) ?_
        refine g_aload_n (pc' := 37) dX11_note_36 rfl 0 rfl rfl ?_
        refine g_getI (pc' := 40) dX11_note_37 rfl (PLk.lf fX11_231) o159 rfl ?_
        refine g_imul (pc' := 41) dX11_note_40 rfl ?_
        refine g_iload_n (pc' := 42) dX11_note_41 rfl 1 rfl rfl ?_
        refine g_iast (pc' := 43) (j := (3 * e)) dX11_note_42 rfl (by decide) o165 (by decide) (by rw [he]; exact i30 e) (by omega) ?_
        refine g_aload_n (pc' := 44) dX11_note_43 rfl 0 rfl rfl ?_
        refine g_getR (pc' := 47) (a := 165) dX11_note_44 rfl (PLk.lf fX11_30) o159 rfl ?_
        refine g_iconst (pc' := 48) (v := 3) dX11_note_47 rfl (by decide) ?_
        refine g_aload_n (pc' := 49) dX11_note_48 rfl 0 rfl rfl ?_
        refine g_getI (pc' := 52) dX11_note_49 rfl (PLk.lf fX11_231) o159 rfl ?_
        refine g_imul (pc' := 53) dX11_note_52 rfl ?_
        refine g_iconst (pc' := 54) (v := 1) dX11_note_53 rfl (by decide) ?_
        refine g_iadd (pc' := 55) dX11_note_54 rfl ?_
        refine g_iload_n (pc' := 56) dX11_note_55 rfl 2 rfl rfl ?_
        refine g_iast (pc' := 57) (j := (3 * e + 1)) dX11_note_56 rfl (by decide) o165 (by decide) (by (try dsimp only); rw [u2_k (by decide), he]; exact i3 1 e) (by omega) ?_
        refine g_aload_n (pc' := 58) dX11_note_57 rfl 0 rfl rfl ?_
        refine g_getR (pc' := 61) (a := 165) dX11_note_58 rfl (PLk.lf fX11_30) o159 rfl ?_
        refine g_iconst (pc' := 62) (v := 3) dX11_note_61 rfl (by decide) ?_
        refine g_aload_n (pc' := 63) dX11_note_62 rfl 0 rfl rfl ?_
        refine g_getI (pc' := 66) dX11_note_63 rfl (PLk.lf fX11_231) o159 rfl ?_
        refine g_imul (pc' := 67) dX11_note_66 rfl ?_
        refine g_iconst (pc' := 68) (v := 2) dX11_note_67 rfl (by decide) ?_
        refine g_iadd (pc' := 69) dX11_note_68 rfl ?_
        refine g_iload_n (pc' := 70) dX11_note_69 rfl 3 rfl rfl ?_
        refine g_ifb_eq (pc' := 73) (tgt := 77) dX11_note_70 rfl (by decide) (fun (c4 : x3 = false) => ?_) (fun (c4 : x3 = true) => ?_)
        · refine g_iconst (pc' := 78) (v := 0) dX11_note_77 rfl (by decide) ?_
          refine g_iast (pc' := 79) (j := (3 * e + 2)) dX11_note_78 rfl (by decide) o165 (by decide) (by (try dsimp only); rw [u2_k (by decide), u2_k (by decide), he]; exact i3 2 e) (by omega) ?_
          refine g_aload_n (pc' := 80) dX11_note_79 rfl 0 rfl rfl ?_
          refine g_dup (pc' := 81) dX11_note_80 rfl rfl ?_
          refine g_getI (pc' := 84) dX11_note_81 rfl (PLk.lf fX11_231) o159 rfl ?_
          refine g_iconst (pc' := 85) (v := 1) dX11_note_84 rfl (by decide) ?_
          refine g_iadd (pc' := 86) dX11_note_85 rfl ?_
          refine g_putI (pc' := 89) dX11_note_86 rfl fX11_231 o159 rfl ?_
          refine g_aload_n (pc' := 90) dX11_note_89 rfl 0 rfl rfl ?_
          refine g_getI (pc' := 93) dX11_note_90 rfl (PLk.lf fX11_231) o159 rfl ?_
          exact g_iret dX11_note_93 rfl ⟨rfl, rfl⟩ (by simp only [rX11_note, sX11_note, if_pos c1, if_pos c2, if_neg c3, if_neg (bf c4), bI_t, bI_f])
        · refine g_iconst (pc' := 74) (v := 1) dX11_note_73 rfl (by decide) ?_
          refine g_goto (tgt := 78) dX11_note_74 (by decide) ?_
          refine g_iast (pc' := 79) (j := (3 * e + 2)) dX11_note_78 rfl (by decide) o165 (by decide) (by (try dsimp only); rw [u2_k (by decide), u2_k (by decide), he]; exact i3 2 e) (by omega) ?_
          refine g_aload_n (pc' := 80) dX11_note_79 rfl 0 rfl rfl ?_
          refine g_dup (pc' := 81) dX11_note_80 rfl rfl ?_
          refine g_getI (pc' := 84) dX11_note_81 rfl (PLk.lf fX11_231) o159 rfl ?_
          refine g_iconst (pc' := 85) (v := 1) dX11_note_84 rfl (by decide) ?_
          refine g_iadd (pc' := 86) dX11_note_85 rfl ?_
          refine g_putI (pc' := 89) dX11_note_86 rfl fX11_231 o159 rfl ?_
          refine g_aload_n (pc' := 90) dX11_note_89 rfl 0 rfl rfl ?_
          refine g_getI (pc' := 93) dX11_note_90 rfl (PLk.lf fX11_231) o159 rfl ?_
          exact g_iret dX11_note_93 rfl ⟨rfl, rfl⟩ (by simp only [rX11_note, sX11_note, if_pos c1, if_pos c2, if_neg c3, if_pos c4, bI_t, bI_f])
      · refine g_ldc (pc' := 30) dX11_note_28 rfl kX11_89 ?_
        exact g_iret dX11_note_30 rfl ⟨rfl, rfl⟩ (by simp only [rX11_note, sX11_note, if_pos c1, if_pos c2, if_pos c3, bI_t, bI_f])
    · refine g_ldc (pc' := 18) dX11_note_16 rfl kX11_249 ?_
      exact g_iret dX11_note_18 rfl ⟨rfl, rfl⟩ (by simp only [rX11_note, sX11_note, if_pos c1, if_neg (bf c2), bI_t, bI_f])
def keL (i : Nat) : Nat → Nat → Sg → Sg
  | 0, _, σ => σ
  | m + 1, k, σ => keL i m (k + 1) (u2 σ.1 162 (50 * i + k) (σ.1 160 k), σ.2)
def keE (i : Nat) (σ : Sg) : Sg := (u2 (u2 (u2 σ.1 162 (50 * i + 49) (σ.1 159 5)) 163 i 1) 159 2 0, σ.2)
theorem i50 {x : Int32} {i : Nat} (h : x = nI i) (k : Nat) : 50 * x + nI k = nI (50 * i + k) := by rw [h, show (50 : Int32) = nI 50 from rfl, pk_mul, nI_add]
set_option maxRecDepth 100000 in
set_option maxHeartbeats 4000000 in
theorem lp_ke {l : Launch} {b : Nat} {cy : Nat → ClassId} {D : va_G} {d : Nat}  {x1 : Int32} {i : Nat}   (q1 : x1 = nI i) (hi : i < 2) : ∀ (m : Nat) (k : Nat) (σ : Sg), k + m = 49 → Gs l b cy D (d + 1) yX11_keep cX11_keep (Option.some Jvm.ClassFile.FieldType.int) 3 (some (.int 1)) (keE i (keL i m k σ)) 15 [(0, .ref (b + 159)), (1, .int (x1)), (2, .int (nI k))] [] σ := by
  intro m
  induction m with
  | zero =>
    intro k σ hk
    refine g_iload_n (pc' := 16) dX11_keep_15 rfl 2 rfl rfl ?_
    refine g_bipush (pc' := 18) (v := 49) dX11_keep_16 rfl (by decide) ?_
    refine g_icmp_ge (pc' := 21) (tgt := 44) dX11_keep_18 rfl (by decide) (fun (c1 : (49 : Int32) ≤ (nI k)) => ?_) (fun (c1 : ¬ (49 : Int32) ≤ (nI k)) => ?_)
    · refine g_aload_n (pc' := 45) dX11_keep_44 rfl 0 rfl rfl ?_
      refine g_getR (pc' := 48) (a := 162) dX11_keep_45 rfl (PLk.lf fX11_16) o159 rfl ?_
      refine g_bipush (pc' := 50) (v := 50) dX11_keep_48 rfl (by decide) ?_
      refine g_iload_n (pc' := 51) dX11_keep_50 rfl 1 rfl rfl ?_
      refine g_imul (pc' := 52) dX11_keep_51 rfl ?_
      refine g_bipush (pc' := 54) (v := 49) dX11_keep_52 rfl (by decide) ?_
      refine g_iadd (pc' := 55) dX11_keep_54 rfl ?_
      refine g_aload_n (pc' := 56) dX11_keep_55 rfl 0 rfl rfl ?_
      refine g_getI (pc' := 59) dX11_keep_56 rfl (PLk.lf fX11_275) o159 rfl ?_
      refine g_iast (pc' := 60) (j := (50 * i + 49)) dX11_keep_59 rfl (by decide) o162 (by decide) (i50 q1 49) (by omega) ?_
      refine g_aload_n (pc' := 61) dX11_keep_60 rfl 0 rfl rfl ?_
      refine g_getR (pc' := 64) (a := 163) dX11_keep_61 rfl (PLk.lf fX11_19) o159 rfl ?_
      refine g_iload_n (pc' := 65) dX11_keep_64 rfl 1 rfl rfl ?_
      refine g_iconst (pc' := 66) (v := 1) dX11_keep_65 rfl (by decide) ?_
      refine g_zast (pc' := 67) (j := i) dX11_keep_66 rfl (by decide) (Or.inr rfl) o163 (by decide) q1 (by omega) ?_
      refine g_aload_n (pc' := 68) dX11_keep_67 rfl 0 rfl rfl ?_
      refine g_iconst (pc' := 69) (v := 0) dX11_keep_68 rfl (by decide) ?_
      refine g_putI (pc' := 72) dX11_keep_69 rfl fX11_90 o159 rfl ?_
      refine g_iconst (pc' := 73) (v := 1) dX11_keep_72 rfl (by decide) ?_
      exact g_iret dX11_keep_73 rfl ⟨rfl, rfl⟩ rfl
    · exact absurd ((nI_leI (a := 49) (b := k) (by omega) (by omega)).mpr (by omega)) c1
  | succ m ih =>
    intro k σ hk
    refine g_iload_n (pc' := 16) dX11_keep_15 rfl 2 rfl rfl ?_
    refine g_bipush (pc' := 18) (v := 49) dX11_keep_16 rfl (by decide) ?_
    refine g_icmp_ge (pc' := 21) (tgt := 44) dX11_keep_18 rfl (by decide) (fun (c1 : (49 : Int32) ≤ (nI k)) => ?_) (fun (c1 : ¬ (49 : Int32) ≤ (nI k)) => ?_)
    · exact absurd (nle (a := 49) (c := k) c1 rfl rfl (by omega) (by omega)) (by omega)
    · refine g_aload_n (pc' := 22) dX11_keep_21 rfl 0 rfl rfl ?_
      refine g_getR (pc' := 25) (a := 162) dX11_keep_22 rfl (PLk.lf fX11_16) o159 rfl ?_
      refine g_bipush (pc' := 27) (v := 50) dX11_keep_25 rfl (by decide) ?_
      refine g_iload_n (pc' := 28) dX11_keep_27 rfl 1 rfl rfl ?_
      refine g_imul (pc' := 29) dX11_keep_28 rfl ?_
      refine g_iload_n (pc' := 30) dX11_keep_29 rfl 2 rfl rfl ?_
      refine g_iadd (pc' := 31) dX11_keep_30 rfl ?_
      refine g_aload_n (pc' := 32) dX11_keep_31 rfl 0 rfl rfl ?_
      refine g_getR (pc' := 35) (a := 160) dX11_keep_32 rfl (PLk.lf fX11_7) o159 rfl ?_
      refine g_iload_n (pc' := 36) dX11_keep_35 rfl 2 rfl rfl ?_
      refine g_iald (pc' := 37) (j := k) dX11_keep_36 rfl o160 (by decide) rfl (by omega) ?_
      refine g_iast (pc' := 38) (j := (50 * i + k)) dX11_keep_37 rfl (by decide) o162 (by decide) (i50 q1 k) (by omega) ?_
      refine g_iinc (pc' := 41) (v := nI (k + 1)) (lv' := [(2, .int (nI (k + 1))), (0, .ref (b + 159)), (1, .int (x1))]) dX11_keep_38 rfl 2 rfl (nI_1 k) (by decide) rfl ?_
      refine g_goto (tgt := 15) dX11_keep_41 (by decide) ?_
      refine g_sub [1, 2, 0] rfl ?_
      exact ih (k + 1) _ (by omega)
def rX11_keep (x1 : Int32) (σ : Sg) : Int32 := if rX11_in x1.toInt64 0 1 σ = true then 1 else -1000000001
def sX11_keep (x1 : Int32) (σ : Sg) : Sg := if rX11_in x1.toInt64 0 1 σ = true then keE x1.toNatClampNeg (keL x1.toNatClampNeg 49 0 σ) else σ
set_option maxRecDepth 100000 in
set_option maxHeartbeats 4000000 in
theorem ev_X11_keep {l : Launch} {b : Nat} {cy : Nat → ClassId} {D : va_G} {d : Nat}  {x1 : Int32}  {σ : Sg}   : Es l b cy D (d + 1) yX11_keep cX11_keep (Option.some Jvm.ClassFile.FieldType.int) 3 [.ref (b + 159), .int (x1)] σ (some (.int (rX11_keep x1 σ))) (sX11_keep x1 σ) := by
  refine Ev.of (by decide) (Nat.le_of_ble_eq_true rfl) rfl ?_
  refine g_iload_n (pc' := 1) dX11_keep_0 rfl 1 rfl rfl ?_
  refine g_i2l (pc' := 2) dX11_keep_1 rfl ?_
  refine g_lconst (pc' := 3) (v := 0) dX11_keep_2 rfl (by decide) ?_
  refine g_lconst (pc' := 4) (v := 1) dX11_keep_3 rfl (by decide) ?_
  refine g_callsr (pc' := 7) dX11_keep_4 rfl mX11_53 (ev_X11_in (x1 := (x1 : Int32).toInt64) (x2 := 0) (x3 := 1) (σ := σ)  (d := d)) (rm_ok (by omega) (by decide)) ⟨rfl, rfl⟩ ⟨Nat.zero_le _, Nat.zero_le _⟩ rfl rfl (Nat.le_of_ble_eq_true rfl) ?_
  refine g_ifb_ne (pc' := 10) (tgt := 13) dX11_keep_7 rfl (by decide) (fun (c1 : (rX11_in ((x1 : Int32).toInt64) 0 1 σ) = true) => ?_) (fun (c1 : (rX11_in ((x1 : Int32).toInt64) 0 1 σ) = false) => ?_)
  · refine g_iconst (pc' := 14) (v := 0) dX11_keep_13 rfl (by decide) ?_
    refine g_istore_n (pc' := 15) (j := 2) (lv' := [(2, .int (0)), (0, .ref (b + 159)), (1, .int (x1))]) dX11_keep_14 rfl rfl (by decide) rfl ?_
    have e1 := inN 0 1 rfl rfl c1
    rw [show rX11_keep x1 σ = _ from if_pos c1, show sX11_keep x1 σ = _ from if_pos c1]
    refine g_sub [1, 2, 0] rfl ?_
    exact lp_ke e1.1 (by omega) 49 0 σ (by omega)
  · refine g_ldc (pc' := 12) dX11_keep_10 rfl kX11_249 ?_
    exact g_iret dX11_keep_12 rfl ⟨rfl, rfl⟩ (by simp only [rX11_keep, sX11_keep, if_neg (bf c1)])
def gbL (i : Nat) : Nat → Nat → Sg → Sg
  | 0, _, σ => σ
  | m + 1, k, σ => gbL i m (k + 1) (u2 σ.1 160 k (σ.1 162 (50 * i + k)), σ.2)
def gbE (i : Nat) (σ : Sg) : Sg := (u2 (u2 σ.1 159 5 (σ.1 162 (50 * i + 49))) 159 2 0, σ.2)
set_option maxRecDepth 100000 in
set_option maxHeartbeats 4000000 in
theorem lp_gb {l : Launch} {b : Nat} {cy : Nat → ClassId} {D : va_G} {d : Nat}  {x1 : Int32} {i : Nat}   (q1 : x1 = nI i) (hi : i < 2) : ∀ (m : Nat) (k : Nat) (σ : Sg), k + m = 49 → Gs l b cy D (d + 1) yX11_goBack cX11_goBack (Option.some Jvm.ClassFile.FieldType.int) 3 (some (.int 1)) (gbE i (gbL i m k σ)) 27 [(0, .ref (b + 159)), (1, .int (x1)), (2, .int (nI k))] [] σ := by
  intro m
  induction m with
  | zero =>
    intro k σ hk
    refine g_iload_n (pc' := 28) dX11_goBack_27 rfl 2 rfl rfl ?_
    refine g_bipush (pc' := 30) (v := 49) dX11_goBack_28 rfl (by decide) ?_
    refine g_icmp_ge (pc' := 33) (tgt := 56) dX11_goBack_30 rfl (by decide) (fun (c1 : (49 : Int32) ≤ (nI k)) => ?_) (fun (c1 : ¬ (49 : Int32) ≤ (nI k)) => ?_)
    · refine g_aload_n (pc' := 57) dX11_goBack_56 rfl 0 rfl rfl ?_
      refine g_aload_n (pc' := 58) dX11_goBack_57 rfl 0 rfl rfl ?_
      refine g_getR (pc' := 61) (a := 162) dX11_goBack_58 rfl (PLk.lf fX11_16) o159 rfl ?_
      refine g_bipush (pc' := 63) (v := 50) dX11_goBack_61 rfl (by decide) ?_
      refine g_iload_n (pc' := 64) dX11_goBack_63 rfl 1 rfl rfl ?_
      refine g_imul (pc' := 65) dX11_goBack_64 rfl ?_
      refine g_bipush (pc' := 67) (v := 49) dX11_goBack_65 rfl (by decide) ?_
      refine g_iadd (pc' := 68) dX11_goBack_67 rfl ?_
      refine g_iald (pc' := 69) (j := (50 * i + 49)) dX11_goBack_68 rfl o162 (by decide) (i50 q1 49) (by omega) ?_
      refine g_putI (pc' := 72) dX11_goBack_69 rfl fX11_275 o159 rfl ?_
      refine g_aload_n (pc' := 73) dX11_goBack_72 rfl 0 rfl rfl ?_
      refine g_iconst (pc' := 74) (v := 0) dX11_goBack_73 rfl (by decide) ?_
      refine g_putI (pc' := 77) dX11_goBack_74 rfl fX11_90 o159 rfl ?_
      refine g_iconst (pc' := 78) (v := 1) dX11_goBack_77 rfl (by decide) ?_
      exact g_iret dX11_goBack_78 rfl ⟨rfl, rfl⟩ rfl
    · exact absurd ((nI_leI (a := 49) (b := k) (by omega) (by omega)).mpr (by omega)) c1
  | succ m ih =>
    intro k σ hk
    refine g_iload_n (pc' := 28) dX11_goBack_27 rfl 2 rfl rfl ?_
    refine g_bipush (pc' := 30) (v := 49) dX11_goBack_28 rfl (by decide) ?_
    refine g_icmp_ge (pc' := 33) (tgt := 56) dX11_goBack_30 rfl (by decide) (fun (c1 : (49 : Int32) ≤ (nI k)) => ?_) (fun (c1 : ¬ (49 : Int32) ≤ (nI k)) => ?_)
    · exact absurd (nle (a := 49) (c := k) c1 rfl rfl (by omega) (by omega)) (by omega)
    · refine g_aload_n (pc' := 34) dX11_goBack_33 rfl 0 rfl rfl ?_
      refine g_getR (pc' := 37) (a := 160) dX11_goBack_34 rfl (PLk.lf fX11_7) o159 rfl ?_
      refine g_iload_n (pc' := 38) dX11_goBack_37 rfl 2 rfl rfl ?_
      refine g_aload_n (pc' := 39) dX11_goBack_38 rfl 0 rfl rfl ?_
      refine g_getR (pc' := 42) (a := 162) dX11_goBack_39 rfl (PLk.lf fX11_16) o159 rfl ?_
      refine g_bipush (pc' := 44) (v := 50) dX11_goBack_42 rfl (by decide) ?_
      refine g_iload_n (pc' := 45) dX11_goBack_44 rfl 1 rfl rfl ?_
      refine g_imul (pc' := 46) dX11_goBack_45 rfl ?_
      refine g_iload_n (pc' := 47) dX11_goBack_46 rfl 2 rfl rfl ?_
      refine g_iadd (pc' := 48) dX11_goBack_47 rfl ?_
      refine g_iald (pc' := 49) (j := (50 * i + k)) dX11_goBack_48 rfl o162 (by decide) (i50 q1 k) (by omega) ?_
      refine g_iast (pc' := 50) (j := k) dX11_goBack_49 rfl (by decide) o160 (by decide) rfl (by omega) ?_
      refine g_iinc (pc' := 53) (v := nI (k + 1)) (lv' := [(2, .int (nI (k + 1))), (0, .ref (b + 159)), (1, .int (x1))]) dX11_goBack_50 rfl 2 rfl (nI_1 k) (by decide) rfl ?_
      refine g_goto (tgt := 27) dX11_goBack_53 (by decide) ?_
      refine g_sub [1, 2, 0] rfl ?_
      exact ih (k + 1) _ (by omega)
def rX11_goBack (x1 : Int32) (σ : Sg) : Int32 := if rX11_in x1.toInt64 0 1 σ = true then (if σ.1 163 x1.toNatClampNeg = 0 then -1000000003 else 1) else -1000000001
def sX11_goBack (x1 : Int32) (σ : Sg) : Sg := if rX11_in x1.toInt64 0 1 σ = true then (if σ.1 163 x1.toNatClampNeg = 0 then σ else gbE x1.toNatClampNeg (gbL x1.toNatClampNeg 49 0 σ)) else σ
set_option maxRecDepth 100000 in
set_option maxHeartbeats 4000000 in
theorem ev_X11_goBack {l : Launch} {b : Nat} {cy : Nat → ClassId} {D : va_G} {d : Nat}  {x1 : Int32}  {σ : Sg}   : Es l b cy D (d + 1) yX11_goBack cX11_goBack (Option.some Jvm.ClassFile.FieldType.int) 3 [.ref (b + 159), .int (x1)] σ (some (.int (rX11_goBack x1 σ))) (sX11_goBack x1 σ) := by
  refine Ev.of (by decide) (Nat.le_of_ble_eq_true rfl) rfl ?_
  refine g_iload_n (pc' := 1) dX11_goBack_0 rfl 1 rfl rfl ?_
  refine g_i2l (pc' := 2) dX11_goBack_1 rfl ?_
  refine g_lconst (pc' := 3) (v := 0) dX11_goBack_2 rfl (by decide) ?_
  refine g_lconst (pc' := 4) (v := 1) dX11_goBack_3 rfl (by decide) ?_
  refine g_callsr (pc' := 7) dX11_goBack_4 rfl mX11_53 (ev_X11_in (x1 := (x1 : Int32).toInt64) (x2 := 0) (x3 := 1) (σ := σ)  (d := d)) (rm_ok (by omega) (by decide)) ⟨rfl, rfl⟩ ⟨Nat.zero_le _, Nat.zero_le _⟩ rfl rfl (Nat.le_of_ble_eq_true rfl) ?_
  refine g_ifb_ne (pc' := 10) (tgt := 13) dX11_goBack_7 rfl (by decide) (fun (c1 : (rX11_in ((x1 : Int32).toInt64) 0 1 σ) = true) => ?_) (fun (c1 : (rX11_in ((x1 : Int32).toInt64) 0 1 σ) = false) => ?_)
  · have e1 := inN 0 1 rfl rfl c1
    refine g_aload_n (pc' := 14) dX11_goBack_13 rfl 0 rfl rfl ?_
    refine g_getR (pc' := 17) (a := 163) dX11_goBack_14 rfl (PLk.lf fX11_19) o159 rfl ?_
    refine g_iload_n (pc' := 18) dX11_goBack_17 rfl 1 rfl rfl ?_
    refine g_zald (pc' := 19) (j := x1.toNatClampNeg) dX11_goBack_18 rfl o163 (by decide) e1.1 (by omega) ?_
    refine g_if_ne (pc' := 22) (tgt := 25) dX11_goBack_19 rfl (by decide) (fun (c2 : ¬ (σ.1 163 x1.toNatClampNeg : Int32) = 0) => ?_) (fun (c2 : (σ.1 163 x1.toNatClampNeg : Int32) = 0) => ?_)
    · refine g_iconst (pc' := 26) (v := 0) dX11_goBack_25 rfl (by decide) ?_
      refine g_istore_n (pc' := 27) (j := 2) (lv' := [(2, .int (0)), (0, .ref (b + 159)), (1, .int (x1))]) dX11_goBack_26 rfl rfl (by decide) rfl ?_
      rw [show rX11_goBack x1 σ = _ from (if_pos c1).trans (if_neg c2), show sX11_goBack x1 σ = _ from (if_pos c1).trans (if_neg c2)]
      refine g_sub [1, 2, 0] rfl ?_
      exact lp_gb e1.1 (by omega) 49 0 σ (by omega)
    · refine g_ldc (pc' := 24) dX11_goBack_22 rfl kX11_115 ?_
      exact g_iret dX11_goBack_24 rfl ⟨rfl, rfl⟩ (by simp only [rX11_goBack, sX11_goBack, if_pos c1, if_pos c2])
  · refine g_ldc (pc' := 12) dX11_goBack_10 rfl kX11_249 ?_
    exact g_iret dX11_goBack_12 rfl ⟨rfl, rfl⟩ (by simp only [rX11_goBack, sX11_goBack, if_neg (bf c1)])
end
