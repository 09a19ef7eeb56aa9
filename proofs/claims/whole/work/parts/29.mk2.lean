def rX10_number (n : Nat) (x1 : Int32) (x2 : Int32) (σ : Sg) : Int32 := if (rX5_has 1 2 x1 σ) = true then if (x2 : Int32) < 0 then -1000000002 else if (x2 : Int32) < 4 then (σ.1 2 ((x1.toNatClampNeg) * 4 + (x2.toNatClampNeg))) + 1000000 else -1000000002 else -1000000001
set_option maxRecDepth 100000 in
set_option maxHeartbeats 4000000 in
theorem ev_X10_number {l : Launch} {b : Nat} {cy : Nat → ClassId} {D : va_G} {d : Nat} {n : Nat} {x1 : Int32} {x2 : Int32} {σ : Sg}  (hz : σ.1 1 1 = nI n) (hn : n ≤ 12) : Es l b cy D (d + 1) yX10_number cX10_number (Option.some Jvm.ClassFile.FieldType.int) 3 [.ref (b + 0), .int (x1), .int (x2)] σ (some (.int (rX10_number n x1 x2 σ))) σ := by
  refine Ev.of (by decide) (Nat.le_of_ble_eq_true rfl) rfl ?_
  refine g_aload_n (pc' := 1) dX10_number_0 rfl 0 rfl rfl ?_
  refine g_getR (pc' := 4) (a := 1) dX10_number_1 rfl (PLk.lf fX10_10) o0 rfl ?_
  refine g_iload_n (pc' := 5) dX10_number_4 rfl 1 rfl rfl ?_
  refine g_callr (pc' := 8) dX10_number_5 rfl mX10_135 (ev_X5_has (k := 1) (c := 2) (x1 := x1) (σ := σ) sf1 (d := d)) o1 rfl (rm_ok (by omega) (by decide)) ⟨rfl, rfl⟩ ⟨Nat.zero_le _, Nat.zero_le _⟩ rfl rfl (Nat.le_of_ble_eq_true rfl) ?_
  refine g_ifb_ne (pc' := 11) (tgt := 14) dX10_number_8 rfl (by decide) (fun (c1 : (rX5_has 1 2 x1 σ) = true) => ?_) (fun (c1 : (rX5_has 1 2 x1 σ) = false) => ?_)
  · refine g_iload_n (pc' := 15) dX10_number_14 rfl 2 rfl rfl ?_
    refine g_if_lt (pc' := 18) (tgt := 23) dX10_number_15 rfl (by decide) (fun (c2 : (x2 : Int32) < 0) => ?_) (fun (c2 : ¬ (x2 : Int32) < 0) => ?_)
    · refine g_ldc (pc' := 25) dX10_number_23 rfl kX10_68 ?_
      exact g_iret dX10_number_25 rfl ⟨rfl, rfl⟩ (by simp only [rX10_number, if_pos c1, if_pos c2, bI_t, bI_f])
    · refine g_iload_n (pc' := 19) dX10_number_18 rfl 2 rfl rfl ?_
      refine g_iconst (pc' := 20) (v := 4) dX10_number_19 rfl (by decide) ?_
      refine g_icmp_lt (pc' := 23) (tgt := 26) dX10_number_20 rfl (by decide) (fun (c3 : (x2 : Int32) < 4) => ?_) (fun (c3 : ¬ (x2 : Int32) < 4) => ?_)
      · obtain ⟨q1, h1⟩ := has_t hz hn c1
        have e2 := nI_self c2
        have h2 : x2.toNatClampNeg < 4 := nlt' (a := x2.toNatClampNeg) (c := 4) c3 e2 rfl (by obtain ⟨j, hj, e⟩ := nI_of c2; rw [e, nI_clamp hj]; exact hj) (by omega)
        refine g_aload_n (pc' := 27) dX10_number_26 rfl 0 rfl rfl ?_
        refine g_getR (pc' := 30) (a := 1) dX10_number_27 rfl (PLk.lf fX10_10) o0 rfl ?_
        refine g_iload_n (pc' := 31) dX10_number_30 rfl 1 rfl rfl ?_
        refine g_iload_n (pc' := 32) dX10_number_31 rfl 2 rfl rfl ?_
        refine g_callr (pc' := 35) dX10_number_32 rfl mX10_147 (ev_X5_cell (k := 1) (c := 2) (x1 := x1) (x2 := x2) (s := (x1.toNatClampNeg)) (j := (x2.toNatClampNeg)) (σ := σ) sf1 q1 (by omega) e2 h2 (d := d)) o1 rfl (rm_ok (by omega) (by decide)) ⟨rfl, rfl⟩ ⟨Nat.zero_le _, Nat.zero_le _⟩ rfl rfl (Nat.le_of_ble_eq_true rfl) ?_
        refine g_ldc (pc' := 37) dX10_number_35 rfl kX10_151 ?_
        refine g_iadd (pc' := 38) dX10_number_37 rfl ?_
        exact g_iret dX10_number_38 rfl ⟨rfl, rfl⟩ (by simp only [rX10_number, if_pos c1, if_neg c2, if_pos c3, bI_t, bI_f])
      · refine g_ldc (pc' := 25) dX10_number_23 rfl kX10_68 ?_
        exact g_iret dX10_number_25 rfl ⟨rfl, rfl⟩ (by simp only [rX10_number, if_pos c1, if_neg c2, if_neg c3, bI_t, bI_f])
  · refine g_ldc (pc' := 13) dX10_number_11 rfl kX10_146 ?_
    exact g_iret dX10_number_13 rfl ⟨rfl, rfl⟩ (by simp only [rX10_number, if_neg (bf c1), bI_t, bI_f])
def rX10_multiply (q : Nat) (n : Nat) (x1 : Int32) (x2 : Int32) (σ : Sg) : Int32 := if (rX5_has 1 2 x1 σ) = true then if (rX5_has 1 2 x2 σ) = true then if (rX5_isFull 1 2 σ) = true then -1000000004 else if (rX6_isWithinBounds 152 (sX6_setProduct 152 150 151 (ldS 2 151 (x2.toNatClampNeg) (ldS 2 150 (x1.toNatClampNeg) σ)))) = true then rX10_place 152 q n (sX6_setProduct 152 150 151 (ldS 2 151 (x2.toNatClampNeg) (ldS 2 150 (x1.toNatClampNeg) σ))) else -1000000003 else -1000000001 else -1000000001
def sX10_multiply (q : Nat) (n : Nat) (x1 : Int32) (x2 : Int32) (σ : Sg) : Sg := if (rX5_has 1 2 x1 σ) = true then if (rX5_has 1 2 x2 σ) = true then if (rX5_isFull 1 2 σ) = true then σ else if (rX6_isWithinBounds 152 (sX6_setProduct 152 150 151 (ldS 2 151 (x2.toNatClampNeg) (ldS 2 150 (x1.toNatClampNeg) σ)))) = true then sX10_place 152 q n (sX6_setProduct 152 150 151 (ldS 2 151 (x2.toNatClampNeg) (ldS 2 150 (x1.toNatClampNeg) σ))) else sX6_setProduct 152 150 151 (ldS 2 151 (x2.toNatClampNeg) (ldS 2 150 (x1.toNatClampNeg) σ)) else σ else σ
set_option maxRecDepth 100000 in
set_option maxHeartbeats 4000000 in
theorem ev_X10_multiply {l : Launch} {b : Nat} {cy : Nat → ClassId} {D : va_G} {d : Nat} {q : Nat} {n : Nat} {x1 : Int32} {x2 : Int32} {σ : Sg}  (hx : σ.1 3 1 = nI q) (hq : q < 20) (hz : σ.1 1 1 = nI n) (hn : n ≤ 12) : Es l b cy D (d + 4) yX10_multiply cX10_multiply (Option.some Jvm.ClassFile.FieldType.int) 3 [.ref (b + 0), .int (x1), .int (x2)] σ (some (.int (rX10_multiply q n x1 x2 σ))) (sX10_multiply q n x1 x2 σ) := by
  refine Ev.of (by decide) (Nat.le_of_ble_eq_true rfl) rfl ?_
  refine g_aload_n (pc' := 1) dX10_multiply_0 rfl 0 rfl rfl ?_
  refine g_getR (pc' := 4) (a := 1) dX10_multiply_1 rfl (PLk.lf fX10_10) o0 rfl ?_
  refine g_iload_n (pc' := 5) dX10_multiply_4 rfl 1 rfl rfl ?_
  refine g_callr (pc' := 8) dX10_multiply_5 rfl mX10_135 (ev_X5_has (k := 1) (c := 2) (x1 := x1) (σ := σ) sf1 (d := d + 3)) o1 rfl (rm_ok (by omega) (by decide)) ⟨rfl, rfl⟩ ⟨Nat.zero_le _, Nat.zero_le _⟩ rfl rfl (Nat.le_of_ble_eq_true rfl) ?_
  refine g_ifb_eq (pc' := 11) (tgt := 22) dX10_multiply_8 rfl (by decide) (fun (c1 : (rX5_has 1 2 x1 σ) = false) => ?_) (fun (c1 : (rX5_has 1 2 x1 σ) = true) => ?_)
  · refine g_ldc (pc' := 24) dX10_multiply_22 rfl kX10_146 ?_
    exact g_iret dX10_multiply_24 rfl ⟨rfl, rfl⟩ (by simp only [rX10_multiply, sX10_multiply, if_neg (bf c1), bI_t, bI_f])
  · refine g_aload_n (pc' := 12) dX10_multiply_11 rfl 0 rfl rfl ?_
    refine g_getR (pc' := 15) (a := 1) dX10_multiply_12 rfl (PLk.lf fX10_10) o0 rfl ?_
    refine g_iload_n (pc' := 16) dX10_multiply_15 rfl 2 rfl rfl ?_
    refine g_callr (pc' := 19) dX10_multiply_16 rfl mX10_135 (ev_X5_has (k := 1) (c := 2) (x1 := x2) (σ := σ) sf1 (d := d + 3)) o1 rfl (rm_ok (by omega) (by decide)) ⟨rfl, rfl⟩ ⟨Nat.zero_le _, Nat.zero_le _⟩ rfl rfl (Nat.le_of_ble_eq_true rfl) ?_
    refine g_ifb_ne (pc' := 22) (tgt := 25) dX10_multiply_19 rfl (by decide) (fun (c2 : (rX5_has 1 2 x2 σ) = true) => ?_) (fun (c2 : (rX5_has 1 2 x2 σ) = false) => ?_)
    · refine g_aload_n (pc' := 26) dX10_multiply_25 rfl 0 rfl rfl ?_
      refine g_getR (pc' := 29) (a := 1) dX10_multiply_26 rfl (PLk.lf fX10_10) o0 rfl ?_
      refine g_callr (pc' := 32) dX10_multiply_29 rfl mX10_82 (ev_X5_isFull (k := 1) (c := 2) (σ := σ) sf1 (d := d + 3)) o1 rfl (rm_ok (by omega) (by decide)) ⟨rfl, rfl⟩ ⟨Nat.zero_le _, Nat.zero_le _⟩ rfl rfl (Nat.le_of_ble_eq_true rfl) ?_
      refine g_ifb_eq (pc' := 35) (tgt := 38) dX10_multiply_32 rfl (by decide) (fun (c3 : (rX5_isFull 1 2 σ) = false) => ?_) (fun (c3 : (rX5_isFull 1 2 σ) = true) => ?_)
      · obtain ⟨q1, h1⟩ := has_t hz hn c1
        obtain ⟨q2, h2⟩ := has_t hz hn c2
        refine g_aload_n (pc' := 39) dX10_multiply_38 rfl 0 rfl rfl ?_
        refine g_getR (pc' := 42) (a := 1) dX10_multiply_39 rfl (PLk.lf fX10_10) o0 rfl ?_
        refine g_iload_n (pc' := 43) dX10_multiply_42 rfl 1 rfl rfl ?_
        refine g_aload_n (pc' := 44) dX10_multiply_43 rfl 0 rfl rfl ?_
        refine g_getR (pc' := 47) (a := 150) dX10_multiply_44 rfl (PLk.lf fX10_53) o0 rfl ?_
        refine g_callv (pc' := 50) dX10_multiply_47 rfl mX10_202 (ev_X5_load (k := 1) (c := 2) (i := 150) (x1 := x1) (s := (x1.toNatClampNeg)) (σ := σ) sf1 o150 q1 (by omega) (d := d + 2)) o1 rfl (rm_ok (by omega) (by decide)) ⟨rfl, rfl⟩ ⟨Nat.zero_le _, Nat.zero_le _⟩ rfl rfl (Nat.le_of_ble_eq_true rfl) ?_
        refine g_aload_n (pc' := 51) dX10_multiply_50 rfl 0 rfl rfl ?_
        refine g_getR (pc' := 54) (a := 1) dX10_multiply_51 rfl (PLk.lf fX10_10) o0 rfl ?_
        refine g_iload_n (pc' := 55) dX10_multiply_54 rfl 2 rfl rfl ?_
        refine g_aload_n (pc' := 56) dX10_multiply_55 rfl 0 rfl rfl ?_
        refine g_getR (pc' := 59) (a := 151) dX10_multiply_56 rfl (PLk.lf fX10_57) o0 rfl ?_
        refine g_callv (pc' := 62) dX10_multiply_59 rfl mX10_202 (ev_X5_load (k := 1) (c := 2) (i := 151) (x1 := x2) (s := (x2.toNatClampNeg)) (σ := ldS 2 150 (x1.toNatClampNeg) σ) sf1 o151 q2 (by omega) (d := d + 2)) o1 rfl (rm_ok (by omega) (by decide)) ⟨rfl, rfl⟩ ⟨Nat.zero_le _, Nat.zero_le _⟩ rfl rfl (Nat.le_of_ble_eq_true rfl) ?_
        refine g_aload_n (pc' := 63) dX10_multiply_62 rfl 0 rfl rfl ?_
        refine g_getR (pc' := 66) (a := 152) dX10_multiply_63 rfl (PLk.lf fX10_60) o0 rfl ?_
        refine g_aload_n (pc' := 67) dX10_multiply_66 rfl 0 rfl rfl ?_
        refine g_getR (pc' := 70) (a := 150) dX10_multiply_67 rfl (PLk.lf fX10_53) o0 rfl ?_
        refine g_aload_n (pc' := 71) dX10_multiply_70 rfl 0 rfl rfl ?_
        refine g_getR (pc' := 74) (a := 151) dX10_multiply_71 rfl (PLk.lf fX10_57) o0 rfl ?_
        refine g_callv (pc' := 77) dX10_multiply_74 rfl mX10_206 (ev_X6_setProduct (k := 152) (i := 150) (j := 151) (σ := ldS 2 151 (x2.toNatClampNeg) (ldS 2 150 (x1.toNatClampNeg) σ)) o152 o150 o151 (d := d + 2)) o152 rfl (rm_ok (by omega) (by decide)) ⟨rfl, rfl⟩ ⟨Nat.zero_le _, Nat.zero_le _⟩ rfl rfl (Nat.le_of_ble_eq_true rfl) ?_
        refine g_aload_n (pc' := 78) dX10_multiply_77 rfl 0 rfl rfl ?_
        refine g_getR (pc' := 81) (a := 152) dX10_multiply_78 rfl (PLk.lf fX10_60) o0 rfl ?_
        refine g_callr (pc' := 84) dX10_multiply_81 rfl mX10_100 (ev_X6_isWithinBounds (k := 152) (σ := sX6_setProduct 152 150 151 (ldS 2 151 (x2.toNatClampNeg) (ldS 2 150 (x1.toNatClampNeg) σ))) o152 (d := d + 2)) o152 rfl (rm_ok (by omega) (by decide)) ⟨rfl, rfl⟩ ⟨Nat.zero_le _, Nat.zero_le _⟩ rfl rfl (Nat.le_of_ble_eq_true rfl) ?_
        refine g_ifb_ne (pc' := 87) (tgt := 90) dX10_multiply_84 rfl (by decide) (fun (c4 : (rX6_isWithinBounds 152 (sX6_setProduct 152 150 151 (ldS 2 151 (x2.toNatClampNeg) (ldS 2 150 (x1.toNatClampNeg) σ)))) = true) => ?_) (fun (c4 : (rX6_isWithinBounds 152 (sX6_setProduct 152 150 151 (ldS 2 151 (x2.toNatClampNeg) (ldS 2 150 (x1.toNatClampNeg) σ)))) = false) => ?_)
        · refine g_aload_n (pc' := 91) dX10_multiply_90 rfl 0 rfl rfl ?_
          refine g_aload_n (pc' := 92) dX10_multiply_91 rfl 0 rfl rfl ?_
          refine g_getR (pc' := 95) (a := 152) dX10_multiply_92 rfl (PLk.lf fX10_60) o0 rfl ?_
          refine g_callr (pc' := 98) dX10_multiply_95 rfl mX10_90 (ev_X10_place (i := 152) (q := q) (n := n) (σ := sX6_setProduct 152 150 151 (ldS 2 151 (x2.toNatClampNeg) (ldS 2 150 (x1.toNatClampNeg) σ))) o152 hx hq hz (nfull hz hn c3) (d := d)) o0 rfl (rm_ok (by omega) (by decide)) ⟨rfl, rfl⟩ ⟨Nat.zero_le _, Nat.zero_le _⟩ rfl rfl (Nat.le_of_ble_eq_true rfl) ?_
          exact g_iret dX10_multiply_98 rfl ⟨rfl, rfl⟩ (by simp only [rX10_multiply, sX10_multiply, if_pos c1, if_pos c2, if_neg (bf c3), if_pos c4, bI_t, bI_f])
        · refine g_ldc (pc' := 89) dX10_multiply_87 rfl kX10_106 ?_
          exact g_iret dX10_multiply_89 rfl ⟨rfl, rfl⟩ (by simp only [rX10_multiply, sX10_multiply, if_pos c1, if_pos c2, if_neg (bf c3), if_neg (bf c4), bI_t, bI_f])
      · refine g_ldc (pc' := 37) dX10_multiply_35 rfl kX10_73 ?_
        exact g_iret dX10_multiply_37 rfl ⟨rfl, rfl⟩ (by simp only [rX10_multiply, sX10_multiply, if_pos c1, if_pos c2, if_pos c3, bI_t, bI_f])
    · refine g_ldc (pc' := 24) dX10_multiply_22 rfl kX10_146 ?_
      exact g_iret dX10_multiply_24 rfl ⟨rfl, rfl⟩ (by simp only [rX10_multiply, sX10_multiply, if_pos c1, if_neg (bf c2), bI_t, bI_f])
def rX10_back (q : Nat) (n : Nat) (x1 : Int32) (σ : Sg) : Int32 := if (rX5_has 1 2 x1 σ) = true then rX10_exchange 152 (x1.toNatClampNeg) q n x1 (sX6_turnBack 152 (ldS 2 152 (x1.toNatClampNeg) σ)) else -1000000001
def sX10_back (q : Nat) (n : Nat) (x1 : Int32) (σ : Sg) : Sg := if (rX5_has 1 2 x1 σ) = true then sX10_exchange 152 (x1.toNatClampNeg) q n x1 (sX6_turnBack 152 (ldS 2 152 (x1.toNatClampNeg) σ)) else σ
set_option maxRecDepth 100000 in
set_option maxHeartbeats 4000000 in
theorem ev_X10_back {l : Launch} {b : Nat} {cy : Nat → ClassId} {D : va_G} {d : Nat} {q : Nat} {n : Nat} {x1 : Int32} {σ : Sg}  (hx : σ.1 3 1 = nI q) (hq : q < 20) (hz : σ.1 1 1 = nI n) (hn : n ≤ 12) : Es l b cy D (d + 4) yX10_back cX10_back (Option.some Jvm.ClassFile.FieldType.int) 2 [.ref (b + 0), .int (x1)] σ (some (.int (rX10_back q n x1 σ))) (sX10_back q n x1 σ) := by
  refine Ev.of (by decide) (Nat.le_of_ble_eq_true rfl) rfl ?_
  refine g_aload_n (pc' := 1) dX10_back_0 rfl 0 rfl rfl ?_
  refine g_getR (pc' := 4) (a := 1) dX10_back_1 rfl (PLk.lf fX10_10) o0 rfl ?_
  refine g_iload_n (pc' := 5) dX10_back_4 rfl 1 rfl rfl ?_
  refine g_callr (pc' := 8) dX10_back_5 rfl mX10_135 (ev_X5_has (k := 1) (c := 2) (x1 := x1) (σ := σ) sf1 (d := d + 3)) o1 rfl (rm_ok (by omega) (by decide)) ⟨rfl, rfl⟩ ⟨Nat.zero_le _, Nat.zero_le _⟩ rfl rfl (Nat.le_of_ble_eq_true rfl) ?_
  refine g_ifb_ne (pc' := 11) (tgt := 14) dX10_back_8 rfl (by decide) (fun (c1 : (rX5_has 1 2 x1 σ) = true) => ?_) (fun (c1 : (rX5_has 1 2 x1 σ) = false) => ?_)
  · obtain ⟨q1, h1⟩ := has_t hz hn c1
    refine g_aload_n (pc' := 15) dX10_back_14 rfl 0 rfl rfl ?_
    refine g_getR (pc' := 18) (a := 1) dX10_back_15 rfl (PLk.lf fX10_10) o0 rfl ?_
    refine g_iload_n (pc' := 19) dX10_back_18 rfl 1 rfl rfl ?_
    refine g_aload_n (pc' := 20) dX10_back_19 rfl 0 rfl rfl ?_
    refine g_getR (pc' := 23) (a := 152) dX10_back_20 rfl (PLk.lf fX10_60) o0 rfl ?_
    refine g_callv (pc' := 26) dX10_back_23 rfl mX10_202 (ev_X5_load (k := 1) (c := 2) (i := 152) (x1 := x1) (s := (x1.toNatClampNeg)) (σ := σ) sf1 o152 q1 (by omega) (d := d + 2)) o1 rfl (rm_ok (by omega) (by decide)) ⟨rfl, rfl⟩ ⟨Nat.zero_le _, Nat.zero_le _⟩ rfl rfl (Nat.le_of_ble_eq_true rfl) ?_
    refine g_aload_n (pc' := 27) dX10_back_26 rfl 0 rfl rfl ?_
    refine g_getR (pc' := 30) (a := 152) dX10_back_27 rfl (PLk.lf fX10_60) o0 rfl ?_
    refine g_callv (pc' := 33) dX10_back_30 rfl mX10_210 (ev_X6_turnBack (k := 152) (σ := ldS 2 152 (x1.toNatClampNeg) σ) o152 (d := d + 2)) o152 rfl (rm_ok (by omega) (by decide)) ⟨rfl, rfl⟩ ⟨Nat.zero_le _, Nat.zero_le _⟩ rfl rfl (Nat.le_of_ble_eq_true rfl) ?_
    refine g_aload_n (pc' := 34) dX10_back_33 rfl 0 rfl rfl ?_
    refine g_iload_n (pc' := 35) dX10_back_34 rfl 1 rfl rfl ?_
    refine g_aload_n (pc' := 36) dX10_back_35 rfl 0 rfl rfl ?_
    refine g_getR (pc' := 39) (a := 152) dX10_back_36 rfl (PLk.lf fX10_60) o0 rfl ?_
    refine g_callr (pc' := 42) dX10_back_39 rfl mX10_213 (ev_X10_exchange (i := 152) (s := (x1.toNatClampNeg)) (q := q) (n := n) (x1 := x1) (σ := sX6_turnBack 152 (ldS 2 152 (x1.toNatClampNeg) σ)) o152 q1 (by omega) hx hq hz hn (d := d)) o0 rfl (rm_ok (by omega) (by decide)) ⟨rfl, rfl⟩ ⟨Nat.zero_le _, Nat.zero_le _⟩ rfl rfl (Nat.le_of_ble_eq_true rfl) ?_
    exact g_iret dX10_back_42 rfl ⟨rfl, rfl⟩ (by simp only [rX10_back, sX10_back, if_pos c1, bI_t, bI_f])
  · refine g_ldc (pc' := 13) dX10_back_11 rfl kX10_146 ?_
    exact g_iret dX10_back_13 rfl ⟨rfl, rfl⟩ (by simp only [rX10_back, sX10_back, if_neg (bf c1), bI_t, bI_f])
def rX10_carry (q : Nat) (n : Nat) (x1 : Int32) (x2 : Int32) (σ : Sg) : Int32 := if (rX5_has 1 2 x1 σ) = true then if (rX5_has 1 2 x2 σ) = true then if (rX6_isWithinBounds 152 (sX6_setProduct 152 152 151 (sX6_turnBack 151 (sX6_setProduct 152 151 150 (ldS 2 151 (x2.toNatClampNeg) (ldS 2 150 (x1.toNatClampNeg) σ)))))) = true then rX10_exchange 152 (x1.toNatClampNeg) q n x1 (sX6_setProduct 152 152 151 (sX6_turnBack 151 (sX6_setProduct 152 151 150 (ldS 2 151 (x2.toNatClampNeg) (ldS 2 150 (x1.toNatClampNeg) σ))))) else -1000000003 else -1000000001 else -1000000001
def sX10_carry (q : Nat) (n : Nat) (x1 : Int32) (x2 : Int32) (σ : Sg) : Sg := if (rX5_has 1 2 x1 σ) = true then if (rX5_has 1 2 x2 σ) = true then if (rX6_isWithinBounds 152 (sX6_setProduct 152 152 151 (sX6_turnBack 151 (sX6_setProduct 152 151 150 (ldS 2 151 (x2.toNatClampNeg) (ldS 2 150 (x1.toNatClampNeg) σ)))))) = true then sX10_exchange 152 (x1.toNatClampNeg) q n x1 (sX6_setProduct 152 152 151 (sX6_turnBack 151 (sX6_setProduct 152 151 150 (ldS 2 151 (x2.toNatClampNeg) (ldS 2 150 (x1.toNatClampNeg) σ))))) else sX6_setProduct 152 152 151 (sX6_turnBack 151 (sX6_setProduct 152 151 150 (ldS 2 151 (x2.toNatClampNeg) (ldS 2 150 (x1.toNatClampNeg) σ)))) else σ else σ
set_option maxRecDepth 100000 in
set_option maxHeartbeats 4000000 in
theorem ev_X10_carry {l : Launch} {b : Nat} {cy : Nat → ClassId} {D : va_G} {d : Nat} {q : Nat} {n : Nat} {x1 : Int32} {x2 : Int32} {σ : Sg}  (hx : σ.1 3 1 = nI q) (hq : q < 20) (hz : σ.1 1 1 = nI n) (hn : n ≤ 12) : Es l b cy D (d + 4) yX10_carry cX10_carry (Option.some Jvm.ClassFile.FieldType.int) 3 [.ref (b + 0), .int (x1), .int (x2)] σ (some (.int (rX10_carry q n x1 x2 σ))) (sX10_carry q n x1 x2 σ) := by
  refine Ev.of (by decide) (Nat.le_of_ble_eq_true rfl) rfl ?_
  refine g_aload_n (pc' := 1) dX10_carry_0 rfl 0 rfl rfl ?_
  refine g_getR (pc' := 4) (a := 1) dX10_carry_1 rfl (PLk.lf fX10_10) o0 rfl ?_
  refine g_iload_n (pc' := 5) dX10_carry_4 rfl 1 rfl rfl ?_
  refine g_callr (pc' := 8) dX10_carry_5 rfl mX10_135 (ev_X5_has (k := 1) (c := 2) (x1 := x1) (σ := σ) sf1 (d := d + 3)) o1 rfl (rm_ok (by omega) (by decide)) ⟨rfl, rfl⟩ ⟨Nat.zero_le _, Nat.zero_le _⟩ rfl rfl (Nat.le_of_ble_eq_true rfl) ?_
  refine g_ifb_eq (pc' := 11) (tgt := 22) dX10_carry_8 rfl (by decide) (fun (c1 : (rX5_has 1 2 x1 σ) = false) => ?_) (fun (c1 : (rX5_has 1 2 x1 σ) = true) => ?_)
  · refine g_ldc (pc' := 24) dX10_carry_22 rfl kX10_146 ?_
    exact g_iret dX10_carry_24 rfl ⟨rfl, rfl⟩ (by simp only [rX10_carry, sX10_carry, if_neg (bf c1), bI_t, bI_f])
  · refine g_aload_n (pc' := 12) dX10_carry_11 rfl 0 rfl rfl ?_
    refine g_getR (pc' := 15) (a := 1) dX10_carry_12 rfl (PLk.lf fX10_10) o0 rfl ?_
    refine g_iload_n (pc' := 16) dX10_carry_15 rfl 2 rfl rfl ?_
    refine g_callr (pc' := 19) dX10_carry_16 rfl mX10_135 (ev_X5_has (k := 1) (c := 2) (x1 := x2) (σ := σ) sf1 (d := d + 3)) o1 rfl (rm_ok (by omega) (by decide)) ⟨rfl, rfl⟩ ⟨Nat.zero_le _, Nat.zero_le _⟩ rfl rfl (Nat.le_of_ble_eq_true rfl) ?_
    refine g_ifb_ne (pc' := 22) (tgt := 25) dX10_carry_19 rfl (by decide) (fun (c2 : (rX5_has 1 2 x2 σ) = true) => ?_) (fun (c2 : (rX5_has 1 2 x2 σ) = false) => ?_)
    · obtain ⟨q1, h1⟩ := has_t hz hn c1
      obtain ⟨q2, h2⟩ := has_t hz hn c2
      refine g_aload_n (pc' := 26) dX10_carry_25 rfl 0 rfl rfl ?_
      refine g_getR (pc' := 29) (a := 1) dX10_carry_26 rfl (PLk.lf fX10_10) o0 rfl ?_
      refine g_iload_n (pc' := 30) dX10_carry_29 rfl 1 rfl rfl ?_
      refine g_aload_n (pc' := 31) dX10_carry_30 rfl 0 rfl rfl ?_
      refine g_getR (pc' := 34) (a := 150) dX10_carry_31 rfl (PLk.lf fX10_53) o0 rfl ?_
      refine g_callv (pc' := 37) dX10_carry_34 rfl mX10_202 (ev_X5_load (k := 1) (c := 2) (i := 150) (x1 := x1) (s := (x1.toNatClampNeg)) (σ := σ) sf1 o150 q1 (by omega) (d := d + 2)) o1 rfl (rm_ok (by omega) (by decide)) ⟨rfl, rfl⟩ ⟨Nat.zero_le _, Nat.zero_le _⟩ rfl rfl (Nat.le_of_ble_eq_true rfl) ?_
      refine g_aload_n (pc' := 38) dX10_carry_37 rfl 0 rfl rfl ?_
      refine g_getR (pc' := 41) (a := 1) dX10_carry_38 rfl (PLk.lf fX10_10) o0 rfl ?_
      refine g_iload_n (pc' := 42) dX10_carry_41 rfl 2 rfl rfl ?_
      refine g_aload_n (pc' := 43) dX10_carry_42 rfl 0 rfl rfl ?_
      refine g_getR (pc' := 46) (a := 151) dX10_carry_43 rfl (PLk.lf fX10_57) o0 rfl ?_
      refine g_callv (pc' := 49) dX10_carry_46 rfl mX10_202 (ev_X5_load (k := 1) (c := 2) (i := 151) (x1 := x2) (s := (x2.toNatClampNeg)) (σ := ldS 2 150 (x1.toNatClampNeg) σ) sf1 o151 q2 (by omega) (d := d + 2)) o1 rfl (rm_ok (by omega) (by decide)) ⟨rfl, rfl⟩ ⟨Nat.zero_le _, Nat.zero_le _⟩ rfl rfl (Nat.le_of_ble_eq_true rfl) ?_
      refine g_aload_n (pc' := 50) dX10_carry_49 rfl 0 rfl rfl ?_
      refine g_getR (pc' := 53) (a := 152) dX10_carry_50 rfl (PLk.lf fX10_60) o0 rfl ?_
      refine g_aload_n (pc' := 54) dX10_carry_53 rfl 0 rfl rfl ?_
      refine g_getR (pc' := 57) (a := 151) dX10_carry_54 rfl (PLk.lf fX10_57) o0 rfl ?_
      refine g_aload_n (pc' := 58) dX10_carry_57 rfl 0 rfl rfl ?_
      refine g_getR (pc' := 61) (a := 150) dX10_carry_58 rfl (PLk.lf fX10_53) o0 rfl ?_
      refine g_callv (pc' := 64) dX10_carry_61 rfl mX10_206 (ev_X6_setProduct (k := 152) (i := 151) (j := 150) (σ := ldS 2 151 (x2.toNatClampNeg) (ldS 2 150 (x1.toNatClampNeg) σ)) o152 o151 o150 (d := d + 2)) o152 rfl (rm_ok (by omega) (by decide)) ⟨rfl, rfl⟩ ⟨Nat.zero_le _, Nat.zero_le _⟩ rfl rfl (Nat.le_of_ble_eq_true rfl) ?_
      refine g_aload_n (pc' := 65) dX10_carry_64 rfl 0 rfl rfl ?_
      refine g_getR (pc' := 68) (a := 151) dX10_carry_65 rfl (PLk.lf fX10_57) o0 rfl ?_
      refine g_callv (pc' := 71) dX10_carry_68 rfl mX10_210 (ev_X6_turnBack (k := 151) (σ := sX6_setProduct 152 151 150 (ldS 2 151 (x2.toNatClampNeg) (ldS 2 150 (x1.toNatClampNeg) σ))) o151 (d := d + 2)) o151 rfl (rm_ok (by omega) (by decide)) ⟨rfl, rfl⟩ ⟨Nat.zero_le _, Nat.zero_le _⟩ rfl rfl (Nat.le_of_ble_eq_true rfl) ?_
      refine g_aload_n (pc' := 72) dX10_carry_71 rfl 0 rfl rfl ?_
      refine g_getR (pc' := 75) (a := 152) dX10_carry_72 rfl (PLk.lf fX10_60) o0 rfl ?_
      refine g_aload_n (pc' := 76) dX10_carry_75 rfl 0 rfl rfl ?_
      refine g_getR (pc' := 79) (a := 152) dX10_carry_76 rfl (PLk.lf fX10_60) o0 rfl ?_
      refine g_aload_n (pc' := 80) dX10_carry_79 rfl 0 rfl rfl ?_
      refine g_getR (pc' := 83) (a := 151) dX10_carry_80 rfl (PLk.lf fX10_57) o0 rfl ?_
      refine g_callv (pc' := 86) dX10_carry_83 rfl mX10_206 (ev_X6_setProduct (k := 152) (i := 152) (j := 151) (σ := sX6_turnBack 151 (sX6_setProduct 152 151 150 (ldS 2 151 (x2.toNatClampNeg) (ldS 2 150 (x1.toNatClampNeg) σ)))) o152 o152 o151 (d := d + 2)) o152 rfl (rm_ok (by omega) (by decide)) ⟨rfl, rfl⟩ ⟨Nat.zero_le _, Nat.zero_le _⟩ rfl rfl (Nat.le_of_ble_eq_true rfl) ?_
      refine g_aload_n (pc' := 87) dX10_carry_86 rfl 0 rfl rfl ?_
      refine g_getR (pc' := 90) (a := 152) dX10_carry_87 rfl (PLk.lf fX10_60) o0 rfl ?_
      refine g_callr (pc' := 93) dX10_carry_90 rfl mX10_100 (ev_X6_isWithinBounds (k := 152) (σ := sX6_setProduct 152 152 151 (sX6_turnBack 151 (sX6_setProduct 152 151 150 (ldS 2 151 (x2.toNatClampNeg) (ldS 2 150 (x1.toNatClampNeg) σ))))) o152 (d := d + 2)) o152 rfl (rm_ok (by omega) (by decide)) ⟨rfl, rfl⟩ ⟨Nat.zero_le _, Nat.zero_le _⟩ rfl rfl (Nat.le_of_ble_eq_true rfl) ?_
      refine g_ifb_ne (pc' := 96) (tgt := 99) dX10_carry_93 rfl (by decide) (fun (c3 : (rX6_isWithinBounds 152 (sX6_setProduct 152 152 151 (sX6_turnBack 151 (sX6_setProduct 152 151 150 (ldS 2 151 (x2.toNatClampNeg) (ldS 2 150 (x1.toNatClampNeg) σ)))))) = true) => ?_) (fun (c3 : (rX6_isWithinBounds 152 (sX6_setProduct 152 152 151 (sX6_turnBack 151 (sX6_setProduct 152 151 150 (ldS 2 151 (x2.toNatClampNeg) (ldS 2 150 (x1.toNatClampNeg) σ)))))) = false) => ?_)
      · refine g_aload_n (pc' := 100) dX10_carry_99 rfl 0 rfl rfl ?_
        refine g_iload_n (pc' := 101) dX10_carry_100 rfl 1 rfl rfl ?_
        refine g_aload_n (pc' := 102) dX10_carry_101 rfl 0 rfl rfl ?_
        refine g_getR (pc' := 105) (a := 152) dX10_carry_102 rfl (PLk.lf fX10_60) o0 rfl ?_
        refine g_callr (pc' := 108) dX10_carry_105 rfl mX10_213 (ev_X10_exchange (i := 152) (s := (x1.toNatClampNeg)) (q := q) (n := n) (x1 := x1) (σ := sX6_setProduct 152 152 151 (sX6_turnBack 151 (sX6_setProduct 152 151 150 (ldS 2 151 (x2.toNatClampNeg) (ldS 2 150 (x1.toNatClampNeg) σ))))) o152 q1 (by omega) hx hq hz hn (d := d)) o0 rfl (rm_ok (by omega) (by decide)) ⟨rfl, rfl⟩ ⟨Nat.zero_le _, Nat.zero_le _⟩ rfl rfl (Nat.le_of_ble_eq_true rfl) ?_
        exact g_iret dX10_carry_108 rfl ⟨rfl, rfl⟩ (by simp only [rX10_carry, sX10_carry, if_pos c1, if_pos c2, if_pos c3, bI_t, bI_f])
      · refine g_ldc (pc' := 98) dX10_carry_96 rfl kX10_106 ?_
        exact g_iret dX10_carry_98 rfl ⟨rfl, rfl⟩ (by simp only [rX10_carry, sX10_carry, if_pos c1, if_pos c2, if_neg (bf c3), bI_t, bI_f])
    · refine g_ldc (pc' := 24) dX10_carry_22 rfl kX10_146 ?_
      exact g_iret dX10_carry_24 rfl ⟨rfl, rfl⟩ (by simp only [rX10_carry, sX10_carry, if_pos c1, if_neg (bf c2), bI_t, bI_f])
def rX10_take (q : Nat) (n : Nat) (x1 : Int32) (σ : Sg) : Int32 := if (rX5_has 1 2 x1 σ) = true then rX5_size 1 2 (rmS 1 2 (x1.toNatClampNeg) n (sX4_remember 1 2 q n σ)) else -1000000001
def sX10_take (q : Nat) (n : Nat) (x1 : Int32) (σ : Sg) : Sg := if (rX5_has 1 2 x1 σ) = true then rmS 1 2 (x1.toNatClampNeg) n (sX4_remember 1 2 q n σ) else σ
set_option maxRecDepth 100000 in
set_option maxHeartbeats 4000000 in
theorem ev_X10_take {l : Launch} {b : Nat} {cy : Nat → ClassId} {D : va_G} {d : Nat} {q : Nat} {n : Nat} {x1 : Int32} {σ : Sg}  (hx : σ.1 3 1 = nI q) (hq : q < 20) (hz : σ.1 1 1 = nI n) (hn : n ≤ 12) : Es l b cy D (d + 3) yX10_take cX10_take (Option.some Jvm.ClassFile.FieldType.int) 2 [.ref (b + 0), .int (x1)] σ (some (.int (rX10_take q n x1 σ))) (sX10_take q n x1 σ) := by
  refine Ev.of (by decide) (Nat.le_of_ble_eq_true rfl) rfl ?_
  refine g_aload_n (pc' := 1) dX10_take_0 rfl 0 rfl rfl ?_
  refine g_getR (pc' := 4) (a := 1) dX10_take_1 rfl (PLk.lf fX10_10) o0 rfl ?_
  refine g_iload_n (pc' := 5) dX10_take_4 rfl 1 rfl rfl ?_
  refine g_callr (pc' := 8) dX10_take_5 rfl mX10_135 (ev_X5_has (k := 1) (c := 2) (x1 := x1) (σ := σ) sf1 (d := d + 2)) o1 rfl (rm_ok (by omega) (by decide)) ⟨rfl, rfl⟩ ⟨Nat.zero_le _, Nat.zero_le _⟩ rfl rfl (Nat.le_of_ble_eq_true rfl) ?_
  refine g_ifb_ne (pc' := 11) (tgt := 14) dX10_take_8 rfl (by decide) (fun (c1 : (rX5_has 1 2 x1 σ) = true) => ?_) (fun (c1 : (rX5_has 1 2 x1 σ) = false) => ?_)
  · obtain ⟨q1, h1⟩ := has_t hz hn c1
    refine g_aload_n (pc' := 15) dX10_take_14 rfl 0 rfl rfl ?_
    refine g_getR (pc' := 18) (a := 3) dX10_take_15 rfl (PLk.lf fX10_19) o0 rfl ?_
    refine g_aload_n (pc' := 19) dX10_take_18 rfl 0 rfl rfl ?_
    refine g_getR (pc' := 22) (a := 1) dX10_take_19 rfl (PLk.lf fX10_10) o0 rfl ?_
    refine g_callv (pc' := 25) dX10_take_22 rfl mX10_220 (ev_X4_remember (i := 1) (c2 := 2) (q := q) (n := n) (σ := σ) sf1 hx hq hz (by omega) (d := d)) o3 rfl (rm_ok (by omega) (by decide)) ⟨rfl, rfl⟩ ⟨Nat.zero_le _, Nat.zero_le _⟩ rfl rfl (Nat.le_of_ble_eq_true rfl) ?_
    refine g_aload_n (pc' := 26) dX10_take_25 rfl 0 rfl rfl ?_
    refine g_getR (pc' := 29) (a := 1) dX10_take_26 rfl (PLk.lf fX10_10) o0 rfl ?_
    refine g_iload_n (pc' := 30) dX10_take_29 rfl 1 rfl rfl ?_
    refine g_callv (pc' := 33) dX10_take_30 rfl mX10_223 (ev_X5_remove (k := 1) (c := 2) (x1 := x1) (s := (x1.toNatClampNeg)) (n := n) (σ := sX4_remember 1 2 q n σ) sf1 q1 (by rw [rem_1 (by omega) (by omega) (by omega)]; exact hz) h1 hn (d := d + 1)) o1 rfl (rm_ok (by omega) (by decide)) ⟨rfl, rfl⟩ ⟨Nat.zero_le _, Nat.zero_le _⟩ rfl rfl (Nat.le_of_ble_eq_true rfl) ?_
    refine g_aload_n (pc' := 34) dX10_take_33 rfl 0 rfl rfl ?_
    refine g_getR (pc' := 37) (a := 1) dX10_take_34 rfl (PLk.lf fX10_10) o0 rfl ?_
    refine g_callr (pc' := 40) dX10_take_37 rfl mX10_107 (ev_X5_size (k := 1) (c := 2) (σ := rmS 1 2 (x1.toNatClampNeg) n (sX4_remember 1 2 q n σ)) sf1 (d := d + 2)) o1 rfl (rm_ok (by omega) (by decide)) ⟨rfl, rfl⟩ ⟨Nat.zero_le _, Nat.zero_le _⟩ rfl rfl (Nat.le_of_ble_eq_true rfl) ?_
    exact g_iret dX10_take_40 rfl ⟨rfl, rfl⟩ (by simp only [rX10_take, sX10_take, if_pos c1, bI_t, bI_f])
  · refine g_ldc (pc' := 13) dX10_take_11 rfl kX10_146 ?_
    exact g_iret dX10_take_13 rfl ⟨rfl, rfl⟩ (by simp only [rX10_take, sX10_take, if_neg (bf c1), bI_t, bI_f])
def rX10_tear   (σ : Sg) : Int32 := rX0_length σ
def sX10_tear   (σ : Sg) : Sg := sX0_clear σ
set_option maxRecDepth 100000 in
set_option maxHeartbeats 4000000 in
theorem ev_X10_tear {l : Launch} {b : Nat} {cy : Nat → ClassId} {D : va_G} {d : Nat}   {σ : Sg}   : Es l b cy D (d + 1) yX10_tear cX10_tear (Option.some Jvm.ClassFile.FieldType.int) 2 [.ref (b + 0)] σ (some (.int (rX10_tear σ))) (sX10_tear σ) := by
  refine Ev.of (by decide) (Nat.le_of_ble_eq_true rfl) rfl ?_
  refine g_aload_n (pc' := 1) dX10_tear_0 rfl 0 rfl rfl ?_
  refine g_getR (pc' := 4) (a := 47) dX10_tear_1 rfl (PLk.lf fX10_33) o0 rfl ?_
  refine g_callr (pc' := 7) dX10_tear_4 rfl mX10_123 (ev_X0_length  (σ := σ)  (d := d)) o47 rfl (rm_ok (by omega) (by decide)) ⟨rfl, rfl⟩ ⟨Nat.zero_le _, Nat.zero_le _⟩ rfl rfl (Nat.le_of_ble_eq_true rfl) ?_
  refine g_istore_n (pc' := 8) (j := 1) (lv' := [(1, .int (rX0_length σ)), (0, .ref (b + 0))]) dX10_tear_7 rfl rfl (by decide) rfl ?_
  refine g_aload_n (pc' := 9) dX10_tear_8 rfl 1 rfl rfl ?_
  refine g_getR (pc' := 12) (a := 47) dX10_tear_9 rfl (PLk.lf fX10_33) o0 rfl ?_
  refine g_callv (pc' := 15) dX10_tear_12 rfl mX10_272 (ev_X0_clear  (σ := σ)  (d := d)) o47 rfl (rm_ok (by omega) (by decide)) ⟨rfl, rfl⟩ ⟨Nat.zero_le _, Nat.zero_le _⟩ rfl rfl (Nat.le_of_ble_eq_true rfl) ?_
  refine g_iload_n (pc' := 16) dX10_tear_15 rfl 0 rfl rfl ?_
  exact g_iret dX10_tear_16 rfl ⟨rfl, rfl⟩ rfl
def rX10_seed  (x1 : Int32) (σ : Sg) : Int32 := if 0 ≤ (x1 : Int32) then σ.1 0 9 else -1000000002
def sX10_seed  (x1 : Int32) (σ : Sg) : Sg := if 0 ≤ (x1 : Int32) then (u2 σ.1 0 9 x1, σ.2) else σ
set_option maxRecDepth 100000 in
set_option maxHeartbeats 4000000 in
theorem ev_X10_seed {l : Launch} {b : Nat} {cy : Nat → ClassId} {D : va_G} {d : Nat}  {x1 : Int32} {σ : Sg}   : Es l b cy D (d + 0) yX10_seed cX10_seed (Option.some Jvm.ClassFile.FieldType.int) 3 [.ref (b + 0), .int (x1)] σ (some (.int (rX10_seed x1 σ))) (sX10_seed x1 σ) := by
  refine Ev.of (by decide) (Nat.le_of_ble_eq_true rfl) rfl ?_
  refine g_iload_n (pc' := 1) dX10_seed_0 rfl 1 rfl rfl ?_
  refine g_if_ge (pc' := 4) (tgt := 7) dX10_seed_1 rfl (by decide) (fun (c1 : 0 ≤ (x1 : Int32)) => ?_) (fun (c1 : ¬ 0 ≤ (x1 : Int32)) => ?_)
  · refine g_aload_n (pc' := 8) dX10_seed_7 rfl 0 rfl rfl ?_
    refine g_getI (pc' := 11) dX10_seed_8 rfl (PLk.lf fX10_63) o0 rfl ?_
    refine g_istore_n (pc' := 12) (j := 2) (lv' := [(2, .int (σ.1 0 9)), (0, .ref (b + 0)), (1, .int (x1))]) dX10_seed_11 rfl rfl (by decide) rfl ?_
    refine g_aload_n (pc' := 13) dX10_seed_12 rfl 1 rfl rfl ?_
    refine g_iload_n (pc' := 14) dX10_seed_13 rfl 2 rfl rfl ?_
    refine g_putI (pc' := 17) dX10_seed_14 rfl fX10_63 o0 rfl ?_
    refine g_iload_n (pc' := 18) dX10_seed_17 rfl 0 rfl rfl ?_
    exact g_iret dX10_seed_18 rfl ⟨rfl, rfl⟩ (by simp only [rX10_seed, sX10_seed, if_pos c1, bI_t, bI_f])
  · refine g_ldc (pc' := 6) dX10_seed_4 rfl kX10_68 ?_
    exact g_iret dX10_seed_6 rfl ⟨rfl, rfl⟩ (by simp only [rX10_seed, sX10_seed, if_neg c1, bI_t, bI_f])
def rX10_note (bl : Nat) (x1 : Int32) (x2 : Int32) (x3 : Bool) (σ : Sg) : Int32 := if (rX5_has 1 2 x1 σ) = true then if (rX5_has 1 2 x2 σ) = true then if (rX0_isFull σ) = true then -1000000004 else rX0_length (sX0_append bl x1 x2 x3 σ) else -1000000001 else -1000000001
def sX10_note (bl : Nat) (x1 : Int32) (x2 : Int32) (x3 : Bool) (σ : Sg) : Sg := if (rX5_has 1 2 x1 σ) = true then if (rX5_has 1 2 x2 σ) = true then if (rX0_isFull σ) = true then σ else sX0_append bl x1 x2 x3 σ else σ else σ
set_option maxRecDepth 100000 in
set_option maxHeartbeats 4000000 in
theorem ev_X10_note {l : Launch} {b : Nat} {cy : Nat → ClassId} {D : va_G} {d : Nat} {bl : Nat} {x1 : Int32} {x2 : Int32} {x3 : Bool} {σ : Sg}  (hb : σ.1 47 3 = nI bl) (hbl : bl ≤ 20) : Es l b cy D (d + 2) yX10_note cX10_note (Option.some Jvm.ClassFile.FieldType.int) 4 [.ref (b + 0), .int (x1), .int (x2), .int (bI (x3))] σ (some (.int (rX10_note bl x1 x2 x3 σ))) (sX10_note bl x1 x2 x3 σ) := by
  refine Ev.of (by decide) (Nat.le_of_ble_eq_true rfl) rfl ?_
  refine g_aload_n (pc' := 1) dX10_note_0 rfl 0 rfl rfl ?_
  refine g_getR (pc' := 4) (a := 1) dX10_note_1 rfl (PLk.lf fX10_10) o0 rfl ?_
  refine g_iload_n (pc' := 5) dX10_note_4 rfl 1 rfl rfl ?_
  refine g_callr (pc' := 8) dX10_note_5 rfl mX10_135 (ev_X5_has (k := 1) (c := 2) (x1 := x1) (σ := σ) sf1 (d := d + 1)) o1 rfl (rm_ok (by omega) (by decide)) ⟨rfl, rfl⟩ ⟨Nat.zero_le _, Nat.zero_le _⟩ rfl rfl (Nat.le_of_ble_eq_true rfl) ?_
  refine g_ifb_eq (pc' := 11) (tgt := 22) dX10_note_8 rfl (by decide) (fun (c1 : (rX5_has 1 2 x1 σ) = false) => ?_) (fun (c1 : (rX5_has 1 2 x1 σ) = true) => ?_)
  · refine g_ldc (pc' := 24) dX10_note_22 rfl kX10_146 ?_
    exact g_iret dX10_note_24 rfl ⟨rfl, rfl⟩ (by simp only [rX10_note, sX10_note, if_neg (bf c1), bI_t, bI_f])
  · refine g_aload_n (pc' := 12) dX10_note_11 rfl 0 rfl rfl ?_
    refine g_getR (pc' := 15) (a := 1) dX10_note_12 rfl (PLk.lf fX10_10) o0 rfl ?_
    refine g_iload_n (pc' := 16) dX10_note_15 rfl 2 rfl rfl ?_
    refine g_callr (pc' := 19) dX10_note_16 rfl mX10_135 (ev_X5_has (k := 1) (c := 2) (x1 := x2) (σ := σ) sf1 (d := d + 1)) o1 rfl (rm_ok (by omega) (by decide)) ⟨rfl, rfl⟩ ⟨Nat.zero_le _, Nat.zero_le _⟩ rfl rfl (Nat.le_of_ble_eq_true rfl) ?_
    refine g_ifb_ne (pc' := 22) (tgt := 25) dX10_note_19 rfl (by decide) (fun (c2 : (rX5_has 1 2 x2 σ) = true) => ?_) (fun (c2 : (rX5_has 1 2 x2 σ) = false) => ?_)
    · refine g_aload_n (pc' := 26) dX10_note_25 rfl 0 rfl rfl ?_
      refine g_getR (pc' := 29) (a := 47) dX10_note_26 rfl (PLk.lf fX10_33) o0 rfl ?_
      refine g_callr (pc' := 32) dX10_note_29 rfl mX10_268 (ev_X0_isFull  (σ := σ)  (d := d + 1)) o47 rfl (rm_ok (by omega) (by decide)) ⟨rfl, rfl⟩ ⟨Nat.zero_le _, Nat.zero_le _⟩ rfl rfl (Nat.le_of_ble_eq_true rfl) ?_
      refine g_ifb_eq (pc' := 35) (tgt := 38) dX10_note_32 rfl (by decide) (fun (c3 : (rX0_isFull σ) = false) => ?_) (fun (c3 : (rX0_isFull σ) = true) => ?_)
      · refine g_aload_n (pc' := 39) dX10_note_38 rfl 0 rfl rfl ?_
        refine g_getR (pc' := 42) (a := 47) dX10_note_39 rfl (PLk.lf fX10_33) o0 rfl ?_
        refine g_iload_n (pc' := 43) dX10_note_42 rfl 1 rfl rfl ?_
        refine g_iload_n (pc' := 44) dX10_note_43 rfl 2 rfl rfl ?_
        refine g_iload_n (pc' := 45) dX10_note_44 rfl 3 rfl rfl ?_
        refine g_callv (pc' := 48) dX10_note_45 rfl mX10_269 (ev_X0_append (n := bl) (x1 := x1) (x2 := x2) (x3 := x3) (σ := σ) hb hbl (d := d)) o47 rfl (rm_ok (by omega) (by decide)) ⟨rfl, rfl⟩ ⟨Nat.zero_le _, Nat.zero_le _⟩ rfl rfl (Nat.le_of_ble_eq_true rfl) ?_
        refine g_aload_n (pc' := 49) dX10_note_48 rfl 0 rfl rfl ?_
        refine g_getR (pc' := 52) (a := 47) dX10_note_49 rfl (PLk.lf fX10_33) o0 rfl ?_
        refine g_callr (pc' := 55) dX10_note_52 rfl mX10_123 (ev_X0_length  (σ := sX0_append bl x1 x2 x3 σ)  (d := d + 1)) o47 rfl (rm_ok (by omega) (by decide)) ⟨rfl, rfl⟩ ⟨Nat.zero_le _, Nat.zero_le _⟩ rfl rfl (Nat.le_of_ble_eq_true rfl) ?_
        exact g_iret dX10_note_55 rfl ⟨rfl, rfl⟩ (by simp only [rX10_note, sX10_note, if_pos c1, if_pos c2, if_neg (bf c3), bI_t, bI_f])
      · refine g_ldc (pc' := 37) dX10_note_35 rfl kX10_73 ?_
        exact g_iret dX10_note_37 rfl ⟨rfl, rfl⟩ (by simp only [rX10_note, sX10_note, if_pos c1, if_pos c2, if_pos c3, bI_t, bI_f])
    · refine g_ldc (pc' := 24) dX10_note_22 rfl kX10_146 ?_
      exact g_iret dX10_note_24 rfl ⟨rfl, rfl⟩ (by simp only [rX10_note, sX10_note, if_pos c1, if_neg (bf c2), bI_t, bI_f])
