def rX5_size (k : Nat) (c : Nat)  (σ : Sg) : Int32 := σ.1 k 1
set_option maxRecDepth 100000 in
set_option maxHeartbeats 4000000 in
theorem ev_X5_size {l : Launch} {b : Nat} {cy : Nat → ClassId} {D : va_G} {d : Nat} {k : Nat} {c : Nat}  {σ : Sg} (hk : Sf k c)  : Es l b cy D (d + 0) yX5_size cX5_size (Option.some Jvm.ClassFile.FieldType.int) 1 [.ref (b + k)] σ (some (.int (rX5_size k c σ))) σ := by
  refine Ev.of (by decide) (Nat.le_of_ble_eq_true rfl) rfl ?_
  refine g_aload_n (pc' := 1) dX5_size_0 rfl 0 rfl rfl ?_
  refine g_getI (pc' := 4) dX5_size_1 rfl (PLk.lf fX5_15) hk.1 rfl ?_
  exact g_iret dX5_size_4 rfl ⟨rfl, rfl⟩ rfl
def rX5_isFull (k : Nat) (c : Nat)  (σ : Sg) : Bool := if (σ.1 k 1 : Int32) < 12 then false else true
set_option maxRecDepth 100000 in
set_option maxHeartbeats 4000000 in
theorem ev_X5_isFull {l : Launch} {b : Nat} {cy : Nat → ClassId} {D : va_G} {d : Nat} {k : Nat} {c : Nat}  {σ : Sg} (hk : Sf k c)  : Es l b cy D (d + 0) yX5_isFull cX5_isFull (Option.some Jvm.ClassFile.FieldType.boolean) 1 [.ref (b + k)] σ (some (.int (bI (rX5_isFull k c σ)))) σ := by
  refine Ev.of (by decide) (Nat.le_of_ble_eq_true rfl) rfl ?_
  refine g_aload_n (pc' := 1) dX5_isFull_0 rfl 0 rfl rfl ?_
  refine g_getI (pc' := 4) dX5_isFull_1 rfl (PLk.lf fX5_15) hk.1 rfl ?_
  refine g_bipush (pc' := 6) (v := 12) dX5_isFull_4 rfl (by decide) ?_
  refine g_icmp_lt (pc' := 9) (tgt := 13) dX5_isFull_6 rfl (by decide) (fun (c1 : (σ.1 k 1 : Int32) < 12) => ?_) (fun (c1 : ¬ (σ.1 k 1 : Int32) < 12) => ?_)
  · refine g_iconst (pc' := 14) (v := 0) dX5_isFull_13 rfl (by decide) ?_
    exact g_zret dX5_isFull_14 rfl (Or.inl rfl) ⟨rfl, rfl⟩ (by simp only [rX5_isFull, if_pos c1, bI_t, bI_f])
  · refine g_iconst (pc' := 10) (v := 1) dX5_isFull_9 rfl (by decide) ?_
    refine g_goto (tgt := 14) dX5_isFull_10 (by decide) ?_
    exact g_zret dX5_isFull_14 rfl (Or.inr rfl) ⟨rfl, rfl⟩ (by simp only [rX5_isFull, if_neg c1, bI_t, bI_f])
def rX5_has (k : Nat) (c : Nat) (x1 : Int32) (σ : Sg) : Bool := if (x1 : Int32) < 0 then false else if (σ.1 k 1 : Int32) ≤ x1 then false else true
set_option maxRecDepth 100000 in
set_option maxHeartbeats 4000000 in
theorem ev_X5_has {l : Launch} {b : Nat} {cy : Nat → ClassId} {D : va_G} {d : Nat} {k : Nat} {c : Nat} {x1 : Int32} {σ : Sg} (hk : Sf k c)  : Es l b cy D (d + 0) yX5_has cX5_has (Option.some Jvm.ClassFile.FieldType.boolean) 2 [.ref (b + k), .int (x1)] σ (some (.int (bI (rX5_has k c x1 σ)))) σ := by
  refine Ev.of (by decide) (Nat.le_of_ble_eq_true rfl) rfl ?_
  refine g_iload_n (pc' := 1) dX5_has_0 rfl 1 rfl rfl ?_
  refine g_if_lt (pc' := 4) (tgt := 16) dX5_has_1 rfl (by decide) (fun (c1 : (x1 : Int32) < 0) => ?_) (fun (c1 : ¬ (x1 : Int32) < 0) => ?_)
  · refine g_iconst (pc' := 17) (v := 0) dX5_has_16 rfl (by decide) ?_
    exact g_zret dX5_has_17 rfl (Or.inl rfl) ⟨rfl, rfl⟩ (by simp only [rX5_has, if_pos c1, bI_t, bI_f])
  · refine g_iload_n (pc' := 5) dX5_has_4 rfl 1 rfl rfl ?_
    refine g_aload_n (pc' := 6) dX5_has_5 rfl 0 rfl rfl ?_
    refine g_getI (pc' := 9) dX5_has_6 rfl (PLk.lf fX5_15) hk.1 rfl ?_
    refine g_icmp_ge (pc' := 12) (tgt := 16) dX5_has_9 rfl (by decide) (fun (c2 : (σ.1 k 1 : Int32) ≤ x1) => ?_) (fun (c2 : ¬ (σ.1 k 1 : Int32) ≤ x1) => ?_)
    · refine g_iconst (pc' := 17) (v := 0) dX5_has_16 rfl (by decide) ?_
      exact g_zret dX5_has_17 rfl (Or.inl rfl) ⟨rfl, rfl⟩ (by simp only [rX5_has, if_neg c1, if_pos c2, bI_t, bI_f])
    · refine g_iconst (pc' := 13) (v := 1) dX5_has_12 rfl (by decide) ?_
      refine g_goto (tgt := 17) dX5_has_13 (by decide) ?_
      exact g_zret dX5_has_17 rfl (Or.inr rfl) ⟨rfl, rfl⟩ (by simp only [rX5_has, if_neg c1, if_neg c2, bI_t, bI_f])
def clF (c s j : Nat) (σ : Sg) : Int32 := σ.1 c (s * 4 + j)
def ldS (c i s : Nat) (σ : Sg) : Sg := sX6_set i (σ.1 c (s * 4)).toInt64 (σ.1 c (s * 4 + 1)).toInt64 (σ.1 c (s * 4 + 2)).toInt64 (σ.1 c (s * 4 + 3)).toInt64 σ
def stS (c i s : Nat) (σ : Sg) : Sg := (u2 (u2 (u2 (u2 σ.1 c (s * 4) (σ.2 i 0).toInt32) c (s * 4 + 1) (σ.2 i 1).toInt32) c (s * 4 + 2) (σ.2 i 2).toInt32) c (s * 4 + 3) (σ.2 i 3).toInt32, σ.2)
def stB (c i s : Nat) (σ : Sg) : Bool := if (σ.1 c (s * 4 + 0)).toInt64 = σ.2 i 0 then if (σ.1 c (s * 4 + 1)).toInt64 = σ.2 i 1 then if (σ.1 c (s * 4 + 2)).toInt64 = σ.2 i 2 then if (σ.1 c (s * 4 + 3)).toInt64 = σ.2 i 3 then false else true else true else true else true
theorem full_f {k c n : Nat} {σ : Sg} (hz : σ.1 k 1 = nI n) (hn : n < 12) : rX5_isFull k c σ = false := by
  unfold rX5_isFull; rw [hz, if_pos (show nI n < (12 : Int32) from (nI_ltI (a := n) (b := 12) (by omega) (by omega)).mpr hn)]
theorem full_t {k c n : Nat} {σ : Sg} (hz : σ.1 k 1 = nI n) (hn : n = 12) : rX5_isFull k c σ = true := by
  unfold rX5_isFull; rw [hz, hn, if_neg (by decide)]
theorem i4 (s j : Nat) : nI s * 4 + nI j = nI (s * 4 + j) := by rw [show (4 : Int32) = nI 4 from rfl, pk_mul, nI_add]
theorem i40 (s : Nat) : nI s * 4 = nI (s * 4) := pk_mul s 4
set_option maxRecDepth 100000 in
set_option maxHeartbeats 4000000 in
theorem ev_X5_cell {l : Launch} {b : Nat} {cy : Nat → ClassId} {D : va_G} {d : Nat} {k : Nat} {c : Nat} {x1 : Int32} {x2 : Int32} {s : Nat} {j : Nat} {σ : Sg} (hk : Sf k c) (q1 : x1 = nI s) (hs : s < 12) (q2 : x2 = nI j) (hj : j < 4) : Es l b cy D (d + 0) yX5_cell cX5_cell (Option.some Jvm.ClassFile.FieldType.int) 3 [.ref (b + k), .int (x1), .int (x2)] σ (some (.int (σ.1 c (s * 4 + j)))) σ := by
  refine Ev.of (by decide) (Nat.le_of_ble_eq_true rfl) rfl ?_
  refine g_aload_n (pc' := 1) dX5_cell_0 rfl 0 rfl rfl ?_
  refine g_getR (pc' := 4) (a := c) dX5_cell_1 rfl (PLk.lf fX5_11) hk.1 rfl ?_
  refine g_iload_n (pc' := 5) dX5_cell_4 rfl 1 rfl rfl ?_
  refine g_iconst (pc' := 6) (v := 4) dX5_cell_5 rfl (by decide) ?_
  refine g_imul (pc' := 7) dX5_cell_6 rfl ?_
  refine g_iload_n (pc' := 8) dX5_cell_7 rfl 2 rfl rfl ?_
  refine g_iadd (pc' := 9) dX5_cell_8 rfl ?_
  refine g_iald (pc' := 10) (j := (s * 4 + j)) dX5_cell_9 rfl hk.2 (by decide) (by rw [q1, q2]; exact i4 s j) (by omega) ?_
  exact g_iret dX5_cell_10 rfl ⟨rfl, rfl⟩ rfl
set_option maxRecDepth 100000 in
set_option maxHeartbeats 4000000 in
theorem ev_X5_load {l : Launch} {b : Nat} {cy : Nat → ClassId} {D : va_G} {d : Nat} {k : Nat} {c : Nat} {i : Nat} {x1 : Int32} {s : Nat} {σ : Sg} (hk : Sf k c) (hi : Sq i) (q1 : x1 = nI s) (hs : s < 12) : Es l b cy D (d + 1) yX5_load cX5_load (Option.none : Option Jvm.ClassFile.FieldType) 4 [.ref (b + k), .int (x1), .ref (b + i)] σ none (ldS c i s σ) := by
  refine Ev.of (by decide) (Nat.le_of_ble_eq_true rfl) rfl ?_
  refine g_iload_n (pc' := 1) dX5_load_0 rfl 1 rfl rfl ?_
  refine g_iconst (pc' := 2) (v := 4) dX5_load_1 rfl (by decide) ?_
  refine g_imul (pc' := 3) dX5_load_2 rfl ?_
  refine g_istore_n (pc' := 4) (j := 3) (lv' := [(3, .int (x1 * 4)), (0, .ref (b + k)), (1, .int (x1)), (2, .ref (b + i))]) dX5_load_3 rfl rfl (by decide) rfl ?_
  refine g_aload_n (pc' := 5) dX5_load_4 rfl 3 rfl rfl ?_
  refine g_aload_n (pc' := 6) dX5_load_5 rfl 1 rfl rfl ?_
  refine g_getR (pc' := 9) (a := c) dX5_load_6 rfl (PLk.lf fX5_11) hk.1 rfl ?_
  refine g_iload_n (pc' := 10) dX5_load_9 rfl 0 rfl rfl ?_
  refine g_iald (pc' := 11) (j := (s * 4)) dX5_load_10 rfl hk.2 (by decide) (by rw [q1]; exact i40 s) (by omega) ?_
  refine g_i2l (pc' := 12) dX5_load_11 rfl ?_
  refine g_aload_n (pc' := 13) dX5_load_12 rfl 1 rfl rfl ?_
  refine g_getR (pc' := 16) (a := c) dX5_load_13 rfl (PLk.lf fX5_11) hk.1 rfl ?_
  refine g_iload_n (pc' := 17) dX5_load_16 rfl 0 rfl rfl ?_
  refine g_iconst (pc' := 18) (v := 1) dX5_load_17 rfl (by decide) ?_
  refine g_iadd (pc' := 19) dX5_load_18 rfl ?_
  refine g_iald (pc' := 20) (j := (s * 4 + 1)) dX5_load_19 rfl hk.2 (by decide) (by rw [q1]; exact i4 s 1) (by omega) ?_
  refine g_i2l (pc' := 21) dX5_load_20 rfl ?_
  refine g_aload_n (pc' := 22) dX5_load_21 rfl 1 rfl rfl ?_
  refine g_getR (pc' := 25) (a := c) dX5_load_22 rfl (PLk.lf fX5_11) hk.1 rfl ?_
  refine g_iload_n (pc' := 26) dX5_load_25 rfl 0 rfl rfl ?_
  refine g_iconst (pc' := 27) (v := 2) dX5_load_26 rfl (by decide) ?_
  refine g_iadd (pc' := 28) dX5_load_27 rfl ?_
  refine g_iald (pc' := 29) (j := (s * 4 + 2)) dX5_load_28 rfl hk.2 (by decide) (by rw [q1]; exact i4 s 2) (by omega) ?_
  refine g_i2l (pc' := 30) dX5_load_29 rfl ?_
  refine g_aload_n (pc' := 31) dX5_load_30 rfl 1 rfl rfl ?_
  refine g_getR (pc' := 34) (a := c) dX5_load_31 rfl (PLk.lf fX5_11) hk.1 rfl ?_
  refine g_iload_n (pc' := 35) dX5_load_34 rfl 0 rfl rfl ?_
  refine g_iconst (pc' := 36) (v := 3) dX5_load_35 rfl (by decide) ?_
  refine g_iadd (pc' := 37) dX5_load_36 rfl ?_
  refine g_iald (pc' := 38) (j := (s * 4 + 3)) dX5_load_37 rfl hk.2 (by decide) (by rw [q1]; exact i4 s 3) (by omega) ?_
  refine g_i2l (pc' := 39) dX5_load_38 rfl ?_
  refine g_callv (pc' := 42) dX5_load_39 rfl mX5_19 (ev_X6_set (k := i) (x1 := (σ.1 c (s * 4) : Int32).toInt64) (x2 := (σ.1 c (s * 4 + 1) : Int32).toInt64) (x3 := (σ.1 c (s * 4 + 2) : Int32).toInt64) (x4 := (σ.1 c (s * 4 + 3) : Int32).toInt64) (σ := σ) hi (d := d)) hi rfl (rm_ok (by omega) (by decide)) ⟨rfl, rfl⟩ ⟨Nat.zero_le _, Nat.zero_le _⟩ rfl rfl (Nat.le_of_ble_eq_true rfl) ?_
  exact g_vret dX5_load_42 rfl ⟨rfl, rfl⟩ rfl
set_option maxRecDepth 100000 in
set_option maxHeartbeats 4000000 in
theorem ev_X5_store {l : Launch} {b : Nat} {cy : Nat → ClassId} {D : va_G} {d : Nat} {k : Nat} {c : Nat} {i : Nat} {x1 : Int32} {s : Nat} {σ : Sg} (hk : Sf k c) (hi : Sq i) (q1 : x1 = nI s) (hs : s < 12) : Es l b cy D (d + 1) yX5_store cX5_store (Option.some Jvm.ClassFile.FieldType.boolean) 5 [.ref (b + k), .int (x1), .ref (b + i)] σ (some (.int (bI (stB c i s σ)))) (stS c i s σ) := by
  refine Ev.of (by decide) (Nat.le_of_ble_eq_true rfl) rfl ?_
  refine g_aload_n (pc' := 1) dX5_store_0 rfl 0 rfl rfl ?_
  refine g_iload_n (pc' := 2) dX5_store_1 rfl 1 rfl rfl ?_
  refine g_iconst (pc' := 3) (v := 0) dX5_store_2 rfl (by decide) ?_
  refine g_callr (pc' := 6) dX5_store_3 rfl mX5_25 (ev_X5_cell (k := k) (c := c) (x1 := x1) (x2 := 0) (s := s) (j := 0) (σ := σ) hk q1 hs (by decide) (by decide) (d := d)) hk.1 rfl (rm_ok (by omega) (by decide)) ⟨rfl, rfl⟩ ⟨Nat.zero_le _, Nat.zero_le _⟩ rfl rfl (Nat.le_of_ble_eq_true rfl) ?_
  refine g_i2l (pc' := 7) dX5_store_6 rfl ?_
  refine g_aload_n (pc' := 8) dX5_store_7 rfl 2 rfl rfl ?_
  refine g_getL (pc' := 11) dX5_store_8 rfl (PLk.lf fX5_29) hi rfl ?_
  refine g_lif_ne (pc' := 15) (tgt := 60) dX5_store_11 dX5_store_12 rfl (by decide) (fun (c1 : ¬ ((σ.1 c (s * 4 + 0) : Int32).toInt64 : Int64) = (σ.2 i 0)) => ?_) (fun (c1 : ((σ.1 c (s * 4 + 0) : Int32).toInt64 : Int64) = (σ.2 i 0)) => ?_)
  · refine g_iconst (pc' := 61) (v := 1) dX5_store_60 rfl (by decide) ?_
    refine g_goto (tgt := 65) dX5_store_61 (by decide) ?_
    refine g_istore_n (pc' := 66) (j := 3) (lv' := [(3, .int (1)), (0, .ref (b + k)), (1, .int (x1)), (2, .ref (b + i))]) dX5_store_65 rfl rfl (by decide) rfl ?_
    refine g_iload_n (pc' := 67) dX5_store_66 rfl 2 rfl rfl ?_
    refine g_iconst (pc' := 68) (v := 4) dX5_store_67 rfl (by decide) ?_
    refine g_imul (pc' := 69) dX5_store_68 rfl ?_
    refine g_istore (pc' := 71) (j := 4) (lv' := [(4, .int (x1 * 4)), (3, .int (1)), (0, .ref (b + k)), (1, .int (x1)), (2, .ref (b + i))]) dX5_store_69 rfl (by decide) rfl ?_
    refine g_aload_n (pc' := 72) dX5_store_71 rfl 2 rfl rfl ?_
    refine g_getR (pc' := 75) (a := c) dX5_store_72 rfl (PLk.lf fX5_11) hk.1 rfl ?_
    refine g_iload (pc' := 77) dX5_store_75 rfl 0 rfl ?_
    refine g_aload_n (pc' := 78) dX5_store_77 rfl 4 rfl rfl ?_
    refine g_getL (pc' := 81) dX5_store_78 rfl (PLk.lf fX5_29) hi rfl ?_
    refine g_l2i (pc' := 82) dX5_store_81 rfl ?_
    refine g_iast (pc' := 83) (j := (s * 4)) dX5_store_82 rfl (by decide) hk.2 (by decide) (by rw [q1]; exact i40 s) (by omega) ?_
    refine g_aload_n (pc' := 84) dX5_store_83 rfl 2 rfl rfl ?_
    refine g_getR (pc' := 87) (a := c) dX5_store_84 rfl (PLk.lf fX5_11) hk.1 rfl ?_
    refine g_iload (pc' := 89) dX5_store_87 rfl 0 rfl ?_
    refine g_iconst (pc' := 90) (v := 1) dX5_store_89 rfl (by decide) ?_
    refine g_iadd (pc' := 91) dX5_store_90 rfl ?_
    refine g_aload_n (pc' := 92) dX5_store_91 rfl 4 rfl rfl ?_
    refine g_getL (pc' := 95) dX5_store_92 rfl (PLk.lf fX5_33) hi rfl ?_
    refine g_l2i (pc' := 96) dX5_store_95 rfl ?_
    refine g_iast (pc' := 97) (j := (s * 4 + 1)) dX5_store_96 rfl (by decide) hk.2 (by decide) (by rw [q1]; exact i4 s 1) (by omega) ?_
    refine g_aload_n (pc' := 98) dX5_store_97 rfl 2 rfl rfl ?_
    refine g_getR (pc' := 101) (a := c) dX5_store_98 rfl (PLk.lf fX5_11) hk.1 rfl ?_
    refine g_iload (pc' := 103) dX5_store_101 rfl 0 rfl ?_
    refine g_iconst (pc' := 104) (v := 2) dX5_store_103 rfl (by decide) ?_
    refine g_iadd (pc' := 105) dX5_store_104 rfl ?_
    refine g_aload_n (pc' := 106) dX5_store_105 rfl 4 rfl rfl ?_
    refine g_getL (pc' := 109) dX5_store_106 rfl (PLk.lf fX5_36) hi rfl ?_
    refine g_l2i (pc' := 110) dX5_store_109 rfl ?_
    refine g_iast (pc' := 111) (j := (s * 4 + 2)) dX5_store_110 rfl (by decide) hk.2 (by decide) (by rw [q1]; exact i4 s 2) (by omega) ?_
    refine g_aload_n (pc' := 112) dX5_store_111 rfl 2 rfl rfl ?_
    refine g_getR (pc' := 115) (a := c) dX5_store_112 rfl (PLk.lf fX5_11) hk.1 rfl ?_
    refine g_iload (pc' := 117) dX5_store_115 rfl 0 rfl ?_
    refine g_iconst (pc' := 118) (v := 3) dX5_store_117 rfl (by decide) ?_
    refine g_iadd (pc' := 119) dX5_store_118 rfl ?_
    refine g_aload_n (pc' := 120) dX5_store_119 rfl 4 rfl rfl ?_
    refine g_getL (pc' := 123) dX5_store_120 rfl (PLk.lf fX5_39) hi rfl ?_
    refine g_l2i (pc' := 124) dX5_store_123 rfl ?_
    refine g_iast (pc' := 125) (j := (s * 4 + 3)) dX5_store_124 rfl (by decide) hk.2 (by decide) (by rw [q1]; exact i4 s 3) (by omega) ?_
    refine g_iload_n (pc' := 126) dX5_store_125 rfl 1 rfl rfl ?_
    exact g_zret dX5_store_126 rfl (Or.inr rfl) ⟨rfl, rfl⟩ (by simp only [stB, if_neg c1]; rfl)
  · refine g_aload_n (pc' := 16) dX5_store_15 rfl 0 rfl rfl ?_
    refine g_iload_n (pc' := 17) dX5_store_16 rfl 1 rfl rfl ?_
    refine g_iconst (pc' := 18) (v := 1) dX5_store_17 rfl (by decide) ?_
    refine g_callr (pc' := 21) dX5_store_18 rfl mX5_25 (ev_X5_cell (k := k) (c := c) (x1 := x1) (x2 := 1) (s := s) (j := 1) (σ := σ) hk q1 hs (by decide) (by decide) (d := d)) hk.1 rfl (rm_ok (by omega) (by decide)) ⟨rfl, rfl⟩ ⟨Nat.zero_le _, Nat.zero_le _⟩ rfl rfl (Nat.le_of_ble_eq_true rfl) ?_
    refine g_i2l (pc' := 22) dX5_store_21 rfl ?_
    refine g_aload_n (pc' := 23) dX5_store_22 rfl 2 rfl rfl ?_
    refine g_getL (pc' := 26) dX5_store_23 rfl (PLk.lf fX5_33) hi rfl ?_
    refine g_lif_ne (pc' := 30) (tgt := 60) dX5_store_26 dX5_store_27 rfl (by decide) (fun (c2 : ¬ ((σ.1 c (s * 4 + 1) : Int32).toInt64 : Int64) = (σ.2 i 1)) => ?_) (fun (c2 : ((σ.1 c (s * 4 + 1) : Int32).toInt64 : Int64) = (σ.2 i 1)) => ?_)
    · refine g_iconst (pc' := 61) (v := 1) dX5_store_60 rfl (by decide) ?_
      refine g_goto (tgt := 65) dX5_store_61 (by decide) ?_
      refine g_istore_n (pc' := 66) (j := 3) (lv' := [(3, .int (1)), (0, .ref (b + k)), (1, .int (x1)), (2, .ref (b + i))]) dX5_store_65 rfl rfl (by decide) rfl ?_
      refine g_iload_n (pc' := 67) dX5_store_66 rfl 2 rfl rfl ?_
      refine g_iconst (pc' := 68) (v := 4) dX5_store_67 rfl (by decide) ?_
      refine g_imul (pc' := 69) dX5_store_68 rfl ?_
      refine g_istore (pc' := 71) (j := 4) (lv' := [(4, .int (x1 * 4)), (3, .int (1)), (0, .ref (b + k)), (1, .int (x1)), (2, .ref (b + i))]) dX5_store_69 rfl (by decide) rfl ?_
      refine g_aload_n (pc' := 72) dX5_store_71 rfl 2 rfl rfl ?_
      refine g_getR (pc' := 75) (a := c) dX5_store_72 rfl (PLk.lf fX5_11) hk.1 rfl ?_
      refine g_iload (pc' := 77) dX5_store_75 rfl 0 rfl ?_
      refine g_aload_n (pc' := 78) dX5_store_77 rfl 4 rfl rfl ?_
      refine g_getL (pc' := 81) dX5_store_78 rfl (PLk.lf fX5_29) hi rfl ?_
      refine g_l2i (pc' := 82) dX5_store_81 rfl ?_
      refine g_iast (pc' := 83) (j := (s * 4)) dX5_store_82 rfl (by decide) hk.2 (by decide) (by rw [q1]; exact i40 s) (by omega) ?_
      refine g_aload_n (pc' := 84) dX5_store_83 rfl 2 rfl rfl ?_
      refine g_getR (pc' := 87) (a := c) dX5_store_84 rfl (PLk.lf fX5_11) hk.1 rfl ?_
      refine g_iload (pc' := 89) dX5_store_87 rfl 0 rfl ?_
      refine g_iconst (pc' := 90) (v := 1) dX5_store_89 rfl (by decide) ?_
      refine g_iadd (pc' := 91) dX5_store_90 rfl ?_
      refine g_aload_n (pc' := 92) dX5_store_91 rfl 4 rfl rfl ?_
      refine g_getL (pc' := 95) dX5_store_92 rfl (PLk.lf fX5_33) hi rfl ?_
      refine g_l2i (pc' := 96) dX5_store_95 rfl ?_
      refine g_iast (pc' := 97) (j := (s * 4 + 1)) dX5_store_96 rfl (by decide) hk.2 (by decide) (by rw [q1]; exact i4 s 1) (by omega) ?_
      refine g_aload_n (pc' := 98) dX5_store_97 rfl 2 rfl rfl ?_
      refine g_getR (pc' := 101) (a := c) dX5_store_98 rfl (PLk.lf fX5_11) hk.1 rfl ?_
      refine g_iload (pc' := 103) dX5_store_101 rfl 0 rfl ?_
      refine g_iconst (pc' := 104) (v := 2) dX5_store_103 rfl (by decide) ?_
      refine g_iadd (pc' := 105) dX5_store_104 rfl ?_
      refine g_aload_n (pc' := 106) dX5_store_105 rfl 4 rfl rfl ?_
      refine g_getL (pc' := 109) dX5_store_106 rfl (PLk.lf fX5_36) hi rfl ?_
      refine g_l2i (pc' := 110) dX5_store_109 rfl ?_
      refine g_iast (pc' := 111) (j := (s * 4 + 2)) dX5_store_110 rfl (by decide) hk.2 (by decide) (by rw [q1]; exact i4 s 2) (by omega) ?_
      refine g_aload_n (pc' := 112) dX5_store_111 rfl 2 rfl rfl ?_
      refine g_getR (pc' := 115) (a := c) dX5_store_112 rfl (PLk.lf fX5_11) hk.1 rfl ?_
      refine g_iload (pc' := 117) dX5_store_115 rfl 0 rfl ?_
      refine g_iconst (pc' := 118) (v := 3) dX5_store_117 rfl (by decide) ?_
      refine g_iadd (pc' := 119) dX5_store_118 rfl ?_
      refine g_aload_n (pc' := 120) dX5_store_119 rfl 4 rfl rfl ?_
      refine g_getL (pc' := 123) dX5_store_120 rfl (PLk.lf fX5_39) hi rfl ?_
      refine g_l2i (pc' := 124) dX5_store_123 rfl ?_
      refine g_iast (pc' := 125) (j := (s * 4 + 3)) dX5_store_124 rfl (by decide) hk.2 (by decide) (by rw [q1]; exact i4 s 3) (by omega) ?_
      refine g_iload_n (pc' := 126) dX5_store_125 rfl 1 rfl rfl ?_
      exact g_zret dX5_store_126 rfl (Or.inr rfl) ⟨rfl, rfl⟩ (by simp only [stB, if_pos c1, if_neg c2]; rfl)
    · refine g_aload_n (pc' := 31) dX5_store_30 rfl 0 rfl rfl ?_
      refine g_iload_n (pc' := 32) dX5_store_31 rfl 1 rfl rfl ?_
      refine g_iconst (pc' := 33) (v := 2) dX5_store_32 rfl (by decide) ?_
      refine g_callr (pc' := 36) dX5_store_33 rfl mX5_25 (ev_X5_cell (k := k) (c := c) (x1 := x1) (x2 := 2) (s := s) (j := 2) (σ := σ) hk q1 hs (by decide) (by decide) (d := d)) hk.1 rfl (rm_ok (by omega) (by decide)) ⟨rfl, rfl⟩ ⟨Nat.zero_le _, Nat.zero_le _⟩ rfl rfl (Nat.le_of_ble_eq_true rfl) ?_
      refine g_i2l (pc' := 37) dX5_store_36 rfl ?_
      refine g_aload_n (pc' := 38) dX5_store_37 rfl 2 rfl rfl ?_
      refine g_getL (pc' := 41) dX5_store_38 rfl (PLk.lf fX5_36) hi rfl ?_
      refine g_lif_ne (pc' := 45) (tgt := 60) dX5_store_41 dX5_store_42 rfl (by decide) (fun (c3 : ¬ ((σ.1 c (s * 4 + 2) : Int32).toInt64 : Int64) = (σ.2 i 2)) => ?_) (fun (c3 : ((σ.1 c (s * 4 + 2) : Int32).toInt64 : Int64) = (σ.2 i 2)) => ?_)
      · refine g_iconst (pc' := 61) (v := 1) dX5_store_60 rfl (by decide) ?_
        refine g_goto (tgt := 65) dX5_store_61 (by decide) ?_
        refine g_istore_n (pc' := 66) (j := 3) (lv' := [(3, .int (1)), (0, .ref (b + k)), (1, .int (x1)), (2, .ref (b + i))]) dX5_store_65 rfl rfl (by decide) rfl ?_
        refine g_iload_n (pc' := 67) dX5_store_66 rfl 2 rfl rfl ?_
        refine g_iconst (pc' := 68) (v := 4) dX5_store_67 rfl (by decide) ?_
        refine g_imul (pc' := 69) dX5_store_68 rfl ?_
        refine g_istore (pc' := 71) (j := 4) (lv' := [(4, .int (x1 * 4)), (3, .int (1)), (0, .ref (b + k)), (1, .int (x1)), (2, .ref (b + i))]) dX5_store_69 rfl (by decide) rfl ?_
        refine g_aload_n (pc' := 72) dX5_store_71 rfl 2 rfl rfl ?_
        refine g_getR (pc' := 75) (a := c) dX5_store_72 rfl (PLk.lf fX5_11) hk.1 rfl ?_
        refine g_iload (pc' := 77) dX5_store_75 rfl 0 rfl ?_
        refine g_aload_n (pc' := 78) dX5_store_77 rfl 4 rfl rfl ?_
        refine g_getL (pc' := 81) dX5_store_78 rfl (PLk.lf fX5_29) hi rfl ?_
        refine g_l2i (pc' := 82) dX5_store_81 rfl ?_
        refine g_iast (pc' := 83) (j := (s * 4)) dX5_store_82 rfl (by decide) hk.2 (by decide) (by rw [q1]; exact i40 s) (by omega) ?_
        refine g_aload_n (pc' := 84) dX5_store_83 rfl 2 rfl rfl ?_
        refine g_getR (pc' := 87) (a := c) dX5_store_84 rfl (PLk.lf fX5_11) hk.1 rfl ?_
        refine g_iload (pc' := 89) dX5_store_87 rfl 0 rfl ?_
        refine g_iconst (pc' := 90) (v := 1) dX5_store_89 rfl (by decide) ?_
        refine g_iadd (pc' := 91) dX5_store_90 rfl ?_
        refine g_aload_n (pc' := 92) dX5_store_91 rfl 4 rfl rfl ?_
        refine g_getL (pc' := 95) dX5_store_92 rfl (PLk.lf fX5_33) hi rfl ?_
        refine g_l2i (pc' := 96) dX5_store_95 rfl ?_
        refine g_iast (pc' := 97) (j := (s * 4 + 1)) dX5_store_96 rfl (by decide) hk.2 (by decide) (by rw [q1]; exact i4 s 1) (by omega) ?_
        refine g_aload_n (pc' := 98) dX5_store_97 rfl 2 rfl rfl ?_
        refine g_getR (pc' := 101) (a := c) dX5_store_98 rfl (PLk.lf fX5_11) hk.1 rfl ?_
        refine g_iload (pc' := 103) dX5_store_101 rfl 0 rfl ?_
        refine g_iconst (pc' := 104) (v := 2) dX5_store_103 rfl (by decide) ?_
        refine g_iadd (pc' := 105) dX5_store_104 rfl ?_
        refine g_aload_n (pc' := 106) dX5_store_105 rfl 4 rfl rfl ?_
        refine g_getL (pc' := 109) dX5_store_106 rfl (PLk.lf fX5_36) hi rfl ?_
        refine g_l2i (pc' := 110) dX5_store_109 rfl ?_
        refine g_iast (pc' := 111) (j := (s * 4 + 2)) dX5_store_110 rfl (by decide) hk.2 (by decide) (by rw [q1]; exact i4 s 2) (by omega) ?_
        refine g_aload_n (pc' := 112) dX5_store_111 rfl 2 rfl rfl ?_
        refine g_getR (pc' := 115) (a := c) dX5_store_112 rfl (PLk.lf fX5_11) hk.1 rfl ?_
        refine g_iload (pc' := 117) dX5_store_115 rfl 0 rfl ?_
        refine g_iconst (pc' := 118) (v := 3) dX5_store_117 rfl (by decide) ?_
        refine g_iadd (pc' := 119) dX5_store_118 rfl ?_
        refine g_aload_n (pc' := 120) dX5_store_119 rfl 4 rfl rfl ?_
        refine g_getL (pc' := 123) dX5_store_120 rfl (PLk.lf fX5_39) hi rfl ?_
        refine g_l2i (pc' := 124) dX5_store_123 rfl ?_
        refine g_iast (pc' := 125) (j := (s * 4 + 3)) dX5_store_124 rfl (by decide) hk.2 (by decide) (by rw [q1]; exact i4 s 3) (by omega) ?_
        refine g_iload_n (pc' := 126) dX5_store_125 rfl 1 rfl rfl ?_
        exact g_zret dX5_store_126 rfl (Or.inr rfl) ⟨rfl, rfl⟩ (by simp only [stB, if_pos c1, if_pos c2, if_neg c3]; rfl)
      · refine g_aload_n (pc' := 46) dX5_store_45 rfl 0 rfl rfl ?_
        refine g_iload_n (pc' := 47) dX5_store_46 rfl 1 rfl rfl ?_
        refine g_iconst (pc' := 48) (v := 3) dX5_store_47 rfl (by decide) ?_
        refine g_callr (pc' := 51) dX5_store_48 rfl mX5_25 (ev_X5_cell (k := k) (c := c) (x1 := x1) (x2 := 3) (s := s) (j := 3) (σ := σ) hk q1 hs (by decide) (by decide) (d := d)) hk.1 rfl (rm_ok (by omega) (by decide)) ⟨rfl, rfl⟩ ⟨Nat.zero_le _, Nat.zero_le _⟩ rfl rfl (Nat.le_of_ble_eq_true rfl) ?_
        refine g_i2l (pc' := 52) dX5_store_51 rfl ?_
        refine g_aload_n (pc' := 53) dX5_store_52 rfl 2 rfl rfl ?_
        refine g_getL (pc' := 56) dX5_store_53 rfl (PLk.lf fX5_39) hi rfl ?_
        refine g_lif_eq (pc' := 60) (tgt := 64) dX5_store_56 dX5_store_57 rfl (by decide) (fun (c4 : ((σ.1 c (s * 4 + 3) : Int32).toInt64 : Int64) = (σ.2 i 3)) => ?_) (fun (c4 : ¬ ((σ.1 c (s * 4 + 3) : Int32).toInt64 : Int64) = (σ.2 i 3)) => ?_)
        · refine g_iconst (pc' := 65) (v := 0) dX5_store_64 rfl (by decide) ?_
          refine g_istore_n (pc' := 66) (j := 3) (lv' := [(3, .int (0)), (0, .ref (b + k)), (1, .int (x1)), (2, .ref (b + i))]) dX5_store_65 rfl rfl (by decide) rfl ?_
          refine g_iload_n (pc' := 67) dX5_store_66 rfl 2 rfl rfl ?_
          refine g_iconst (pc' := 68) (v := 4) dX5_store_67 rfl (by decide) ?_
          refine g_imul (pc' := 69) dX5_store_68 rfl ?_
          refine g_istore (pc' := 71) (j := 4) (lv' := [(4, .int (x1 * 4)), (3, .int (0)), (0, .ref (b + k)), (1, .int (x1)), (2, .ref (b + i))]) dX5_store_69 rfl (by decide) rfl ?_
          refine g_aload_n (pc' := 72) dX5_store_71 rfl 2 rfl rfl ?_
          refine g_getR (pc' := 75) (a := c) dX5_store_72 rfl (PLk.lf fX5_11) hk.1 rfl ?_
          refine g_iload (pc' := 77) dX5_store_75 rfl 0 rfl ?_
          refine g_aload_n (pc' := 78) dX5_store_77 rfl 4 rfl rfl ?_
          refine g_getL (pc' := 81) dX5_store_78 rfl (PLk.lf fX5_29) hi rfl ?_
          refine g_l2i (pc' := 82) dX5_store_81 rfl ?_
          refine g_iast (pc' := 83) (j := (s * 4)) dX5_store_82 rfl (by decide) hk.2 (by decide) (by rw [q1]; exact i40 s) (by omega) ?_
          refine g_aload_n (pc' := 84) dX5_store_83 rfl 2 rfl rfl ?_
          refine g_getR (pc' := 87) (a := c) dX5_store_84 rfl (PLk.lf fX5_11) hk.1 rfl ?_
          refine g_iload (pc' := 89) dX5_store_87 rfl 0 rfl ?_
          refine g_iconst (pc' := 90) (v := 1) dX5_store_89 rfl (by decide) ?_
          refine g_iadd (pc' := 91) dX5_store_90 rfl ?_
          refine g_aload_n (pc' := 92) dX5_store_91 rfl 4 rfl rfl ?_
          refine g_getL (pc' := 95) dX5_store_92 rfl (PLk.lf fX5_33) hi rfl ?_
          refine g_l2i (pc' := 96) dX5_store_95 rfl ?_
          refine g_iast (pc' := 97) (j := (s * 4 + 1)) dX5_store_96 rfl (by decide) hk.2 (by decide) (by rw [q1]; exact i4 s 1) (by omega) ?_
          refine g_aload_n (pc' := 98) dX5_store_97 rfl 2 rfl rfl ?_
          refine g_getR (pc' := 101) (a := c) dX5_store_98 rfl (PLk.lf fX5_11) hk.1 rfl ?_
          refine g_iload (pc' := 103) dX5_store_101 rfl 0 rfl ?_
          refine g_iconst (pc' := 104) (v := 2) dX5_store_103 rfl (by decide) ?_
          refine g_iadd (pc' := 105) dX5_store_104 rfl ?_
          refine g_aload_n (pc' := 106) dX5_store_105 rfl 4 rfl rfl ?_
          refine g_getL (pc' := 109) dX5_store_106 rfl (PLk.lf fX5_36) hi rfl ?_
          refine g_l2i (pc' := 110) dX5_store_109 rfl ?_
          refine g_iast (pc' := 111) (j := (s * 4 + 2)) dX5_store_110 rfl (by decide) hk.2 (by decide) (by rw [q1]; exact i4 s 2) (by omega) ?_
          refine g_aload_n (pc' := 112) dX5_store_111 rfl 2 rfl rfl ?_
          refine g_getR (pc' := 115) (a := c) dX5_store_112 rfl (PLk.lf fX5_11) hk.1 rfl ?_
          refine g_iload (pc' := 117) dX5_store_115 rfl 0 rfl ?_
          refine g_iconst (pc' := 118) (v := 3) dX5_store_117 rfl (by decide) ?_
          refine g_iadd (pc' := 119) dX5_store_118 rfl ?_
          refine g_aload_n (pc' := 120) dX5_store_119 rfl 4 rfl rfl ?_
          refine g_getL (pc' := 123) dX5_store_120 rfl (PLk.lf fX5_39) hi rfl ?_
          refine g_l2i (pc' := 124) dX5_store_123 rfl ?_
          refine g_iast (pc' := 125) (j := (s * 4 + 3)) dX5_store_124 rfl (by decide) hk.2 (by decide) (by rw [q1]; exact i4 s 3) (by omega) ?_
          refine g_iload_n (pc' := 126) dX5_store_125 rfl 1 rfl rfl ?_
          exact g_zret dX5_store_126 rfl (Or.inl rfl) ⟨rfl, rfl⟩ (by simp only [stB, if_pos c1, if_pos c2, if_pos c3, if_pos c4]; rfl)
        · refine g_iconst (pc' := 61) (v := 1) dX5_store_60 rfl (by decide) ?_
          refine g_goto (tgt := 65) dX5_store_61 (by decide) ?_
          refine g_istore_n (pc' := 66) (j := 3) (lv' := [(3, .int (1)), (0, .ref (b + k)), (1, .int (x1)), (2, .ref (b + i))]) dX5_store_65 rfl rfl (by decide) rfl ?_
          refine g_iload_n (pc' := 67) dX5_store_66 rfl 2 rfl rfl ?_
          refine g_iconst (pc' := 68) (v := 4) dX5_store_67 rfl (by decide) ?_
          refine g_imul (pc' := 69) dX5_store_68 rfl ?_
          refine g_istore (pc' := 71) (j := 4) (lv' := [(4, .int (x1 * 4)), (3, .int (1)), (0, .ref (b + k)), (1, .int (x1)), (2, .ref (b + i))]) dX5_store_69 rfl (by decide) rfl ?_
          refine g_aload_n (pc' := 72) dX5_store_71 rfl 2 rfl rfl ?_
          refine g_getR (pc' := 75) (a := c) dX5_store_72 rfl (PLk.lf fX5_11) hk.1 rfl ?_
          refine g_iload (pc' := 77) dX5_store_75 rfl 0 rfl ?_
          refine g_aload_n (pc' := 78) dX5_store_77 rfl 4 rfl rfl ?_
          refine g_getL (pc' := 81) dX5_store_78 rfl (PLk.lf fX5_29) hi rfl ?_
          refine g_l2i (pc' := 82) dX5_store_81 rfl ?_
          refine g_iast (pc' := 83) (j := (s * 4)) dX5_store_82 rfl (by decide) hk.2 (by decide) (by rw [q1]; exact i40 s) (by omega) ?_
          refine g_aload_n (pc' := 84) dX5_store_83 rfl 2 rfl rfl ?_
          refine g_getR (pc' := 87) (a := c) dX5_store_84 rfl (PLk.lf fX5_11) hk.1 rfl ?_
          refine g_iload (pc' := 89) dX5_store_87 rfl 0 rfl ?_
          refine g_iconst (pc' := 90) (v := 1) dX5_store_89 rfl (by decide) ?_
          refine g_iadd (pc' := 91) dX5_store_90 rfl ?_
          refine g_aload_n (pc' := 92) dX5_store_91 rfl 4 rfl rfl ?_
          refine g_getL (pc' := 95) dX5_store_92 rfl (PLk.lf fX5_33) hi rfl ?_
          refine g_l2i (pc' := 96) dX5_store_95 rfl ?_
          refine g_iast (pc' := 97) (j := (s * 4 + 1)) dX5_store_96 rfl (by decide) hk.2 (by decide) (by rw [q1]; exact i4 s 1) (by omega) ?_
          refine g_aload_n (pc' := 98) dX5_store_97 rfl 2 rfl rfl ?_
          refine g_getR (pc' := 101) (a := c) dX5_store_98 rfl (PLk.lf fX5_11) hk.1 rfl ?_
          refine g_iload (pc' := 103) dX5_store_101 rfl 0 rfl ?_
          refine g_iconst (pc' := 104) (v := 2) dX5_store_103 rfl (by decide) ?_
          refine g_iadd (pc' := 105) dX5_store_104 rfl ?_
          refine g_aload_n (pc' := 106) dX5_store_105 rfl 4 rfl rfl ?_
          refine g_getL (pc' := 109) dX5_store_106 rfl (PLk.lf fX5_36) hi rfl ?_
          refine g_l2i (pc' := 110) dX5_store_109 rfl ?_
          refine g_iast (pc' := 111) (j := (s * 4 + 2)) dX5_store_110 rfl (by decide) hk.2 (by decide) (by rw [q1]; exact i4 s 2) (by omega) ?_
          refine g_aload_n (pc' := 112) dX5_store_111 rfl 2 rfl rfl ?_
          refine g_getR (pc' := 115) (a := c) dX5_store_112 rfl (PLk.lf fX5_11) hk.1 rfl ?_
          refine g_iload (pc' := 117) dX5_store_115 rfl 0 rfl ?_
          refine g_iconst (pc' := 118) (v := 3) dX5_store_117 rfl (by decide) ?_
          refine g_iadd (pc' := 119) dX5_store_118 rfl ?_
          refine g_aload_n (pc' := 120) dX5_store_119 rfl 4 rfl rfl ?_
          refine g_getL (pc' := 123) dX5_store_120 rfl (PLk.lf fX5_39) hi rfl ?_
          refine g_l2i (pc' := 124) dX5_store_123 rfl ?_
          refine g_iast (pc' := 125) (j := (s * 4 + 3)) dX5_store_124 rfl (by decide) hk.2 (by decide) (by rw [q1]; exact i4 s 3) (by omega) ?_
          refine g_iload_n (pc' := 126) dX5_store_125 rfl 1 rfl rfl ?_
          exact g_zret dX5_store_126 rfl (Or.inr rfl) ⟨rfl, rfl⟩ (by simp only [stB, if_pos c1, if_pos c2, if_pos c3, if_neg c4]; rfl)
def adS (k c i n : Nat) (σ : Sg) : Sg := (u2 (stS c i n σ).1 k 1 ((stS c i n σ).1 k 1 + 1), (stS c i n σ).2)
theorem stS_k {k c i s j : Nat} {σ : Sg} (h : k ≠ c) : (stS c i s σ).1 k j = σ.1 k j := by
  unfold stS
  show u2 _ c _ _ k j = _
  rw [u2_k h, u2_k h, u2_k h, u2_k h]
def rmS (k c s n : Nat) (σ : Sg) : Sg := (u2 (cpy σ.1 c c (s * 4 + 4) (s * 4) ((n - s - 1) * 4)) k 1 ((cpy σ.1 c c (s * 4 + 4) (s * 4) ((n - s - 1) * 4)) k 1 - 1), σ.2)
def cfS (k c i c2 n : Nat) (σ : Sg) : Sg := (u2 (cpy σ.1 c2 c 0 0 (n * 4)) k 1 ((cpy σ.1 c2 c 0 0 (n * 4)) i 1), σ.2)
theorem i41 {n s : Nat} (h : s < n) : nI n - nI s - 1 = nI (n - s - 1) := by
  rw [pk_sub (by omega), show (1 : Int32) = nI 1 from rfl, pk_sub (by omega)]
set_option maxRecDepth 100000 in
set_option maxHeartbeats 4000000 in
theorem ev_X5_add {l : Launch} {b : Nat} {cy : Nat → ClassId} {D : va_G} {d : Nat} {k : Nat} {c : Nat} {i : Nat}  {n : Nat} {σ : Sg} (hk : Sf k c) (hi : Sq i) (hz : σ.1 k 1 = nI n) (hn : n < 12) : Es l b cy D (d + 2) yX5_add cX5_add (Option.some Jvm.ClassFile.FieldType.int) 2 [.ref (b + k), .ref (b + i)] σ (some (.int (nI n))) (adS k c i n σ) := by
  refine Ev.of (by decide) (Nat.le_of_ble_eq_true rfl) rfl ?_
  refine g_aload_n (pc' := 1) dX5_add_0 rfl 0 rfl rfl ?_
  refine g_callr (pc' := 4) dX5_add_1 rfl mX5_42 (ev_X5_isFull (k := k) (c := c) (σ := σ) hk (d := d + 1)) hk.1 rfl (rm_ok (by omega) (by decide)) ⟨rfl, rfl⟩ ⟨Nat.zero_le _, Nat.zero_le _⟩ rfl rfl (Nat.le_of_ble_eq_true rfl) ?_
  refine g_ifb_eq (pc' := 7) (tgt := 10) dX5_add_4 rfl (by decide) (fun (c1 : (rX5_isFull k c σ) = false) => ?_) (fun (c1 : (rX5_isFull k c σ) = true) => ?_)
  · refine g_aload_n (pc' := 11) dX5_add_10 rfl 0 rfl rfl ?_
    refine g_aload_n (pc' := 12) dX5_add_11 rfl 0 rfl rfl ?_
    refine g_getI (pc' := 15) dX5_add_12 rfl (PLk.lf fX5_15) hk.1 rfl ?_
    refine g_aload_n (pc' := 16) dX5_add_15 rfl 1 rfl rfl ?_
    refine g_callr (pc' := 19) dX5_add_16 rfl mX5_47 (ev_X5_store (k := k) (c := c) (i := i) (x1 := σ.1 k 1) (s := n) (σ := σ) hk hi hz hn (d := d)) hk.1 rfl (rm_ok (by omega) (by decide)) ⟨rfl, rfl⟩ ⟨Nat.zero_le _, Nat.zero_le _⟩ rfl rfl (Nat.le_of_ble_eq_true rfl) ?_
    refine g_pop (pc' := 20) dX5_add_19 rfl rfl ?_
    refine g_aload_n (pc' := 21) dX5_add_20 rfl 0 rfl rfl ?_
    refine g_dup (pc' := 22) dX5_add_21 rfl rfl ?_
    refine g_getI (pc' := 25) dX5_add_22 rfl (PLk.lf fX5_15) hk.1 rfl ?_
    refine g_iconst (pc' := 26) (v := 1) dX5_add_25 rfl (by decide) ?_
    refine g_iadd (pc' := 27) dX5_add_26 rfl ?_
    refine g_putI (pc' := 30) dX5_add_27 rfl fX5_15 hk.1 rfl ?_
    refine g_aload_n (pc' := 31) dX5_add_30 rfl 0 rfl rfl ?_
    refine g_getI (pc' := 34) dX5_add_31 rfl (PLk.lf fX5_15) hk.1 rfl ?_
    refine g_iconst (pc' := 35) (v := 1) dX5_add_34 rfl (by decide) ?_
    refine g_isub (pc' := 36) dX5_add_35 rfl ?_
    exact g_iret dX5_add_36 rfl ⟨rfl, rfl⟩ (by have e : (stS c i n σ).1 k 1 = nI n := (stS_k (or_ne hk.1 hk.2)).trans hz; show (some (Value.int (nI n)), shF, NP, adS k c i n σ) = (some (Value.int (u2 (stS c i n σ).1 k 1 ((stS c i n σ).1 k 1 + 1) k 1 - 1)), shF, NP, adS k c i n σ); rw [u2_eq, e, nI_1, nI_pred])
  · exact absurd c1 (by rw [full_f hz hn]; decide)
set_option maxRecDepth 100000 in
set_option maxHeartbeats 4000000 in
theorem ev_X5_remove {l : Launch} {b : Nat} {cy : Nat → ClassId} {D : va_G} {d : Nat} {k : Nat} {c : Nat} {x1 : Int32} {s : Nat} {n : Nat} {σ : Sg} (hk : Sf k c) (q1 : x1 = nI s) (hz : σ.1 k 1 = nI n) (hs : s < n) (hn : n ≤ 12) : Es l b cy D (d + 1) yX5_remove cX5_remove (Option.none : Option Jvm.ClassFile.FieldType) 3 [.ref (b + k), .int (x1)] σ none (rmS k c s n σ) := by
  refine Ev.of (by decide) (Nat.le_of_ble_eq_true rfl) rfl ?_
  refine g_iload_n (pc' := 1) dX5_remove_0 rfl 1 rfl rfl ?_
  refine g_iconst (pc' := 2) (v := 4) dX5_remove_1 rfl (by decide) ?_
  refine g_imul (pc' := 3) dX5_remove_2 rfl ?_
  refine g_istore_n (pc' := 4) (j := 2) (lv' := [(2, .int (x1 * 4)), (0, .ref (b + k)), (1, .int (x1))]) dX5_remove_3 rfl rfl (by decide) rfl ?_
  refine g_aload_n (pc' := 5) dX5_remove_4 rfl 1 rfl rfl ?_
  refine g_getR (pc' := 8) (a := c) dX5_remove_5 rfl (PLk.lf fX5_11) hk.1 rfl ?_
  refine g_iload_n (pc' := 9) dX5_remove_8 rfl 0 rfl rfl ?_
  refine g_iconst (pc' := 10) (v := 4) dX5_remove_9 rfl (by decide) ?_
  refine g_iadd (pc' := 11) dX5_remove_10 rfl ?_
  refine g_aload_n (pc' := 12) dX5_remove_11 rfl 1 rfl rfl ?_
  refine g_getR (pc' := 15) (a := c) dX5_remove_12 rfl (PLk.lf fX5_11) hk.1 rfl ?_
  refine g_iload_n (pc' := 16) dX5_remove_15 rfl 0 rfl rfl ?_
  refine g_aload_n (pc' := 17) dX5_remove_16 rfl 1 rfl rfl ?_
  refine g_getI (pc' := 20) dX5_remove_17 rfl (PLk.lf fX5_15) hk.1 rfl ?_
  refine g_iload_n (pc' := 21) dX5_remove_20 rfl 2 rfl rfl ?_
  refine g_isub (pc' := 22) dX5_remove_21 rfl ?_
  refine g_iconst (pc' := 23) (v := 1) dX5_remove_22 rfl (by decide) ?_
  refine g_isub (pc' := 24) dX5_remove_23 rfl ?_
  refine g_iconst (pc' := 25) (v := 4) dX5_remove_24 rfl (by decide) ?_
  refine g_imul (pc' := 26) dX5_remove_25 rfl ?_
  refine g_copy (pc' := 29) (sp := (s * 4 + 4)) (dp := (s * 4)) (cn := ((n - s - 1) * 4)) dX5_remove_26 rfl (by decide) acX5_51 ac_nat ac_sta ac_ini hk.2 hk.2 (by rw [q1]; exact i4 s 4) (by rw [q1]; exact i40 s) (by rw [hz, q1, i41 hs]; exact i40 (n - s - 1)) (by omega) (by omega) (by decide) (by decide) (rm_nat (by omega)) ?_
  refine g_aload_n (pc' := 30) dX5_remove_29 rfl 1 rfl rfl ?_
  refine g_dup (pc' := 31) dX5_remove_30 rfl rfl ?_
  refine g_getI (pc' := 34) dX5_remove_31 rfl (PLk.lf fX5_15) hk.1 rfl ?_
  refine g_iconst (pc' := 35) (v := 1) dX5_remove_34 rfl (by decide) ?_
  refine g_isub (pc' := 36) dX5_remove_35 rfl ?_
  refine g_putI (pc' := 39) dX5_remove_36 rfl fX5_15 hk.1 rfl ?_
  exact g_vret dX5_remove_39 rfl ⟨rfl, rfl⟩ rfl
set_option maxRecDepth 100000 in
set_option maxHeartbeats 4000000 in
theorem ev_X5_copyFrom {l : Launch} {b : Nat} {cy : Nat → ClassId} {D : va_G} {d : Nat} {k : Nat} {c : Nat} {i : Nat} {c2 : Nat}  {n : Nat} {σ : Sg} (hk : Sf k c) (hi : Sf i c2) (hz : σ.1 i 1 = nI n) (hn : n ≤ 12) : Es l b cy D (d + 1) yX5_copyFrom cX5_copyFrom (Option.none : Option Jvm.ClassFile.FieldType) 2 [.ref (b + k), .ref (b + i)] σ none (cfS k c i c2 n σ) := by
  refine Ev.of (by decide) (Nat.le_of_ble_eq_true rfl) rfl ?_
  refine g_aload_n (pc' := 1) dX5_copyFrom_0 rfl 1 rfl rfl ?_
  refine g_getR (pc' := 4) (a := c2) dX5_copyFrom_1 rfl (PLk.lf fX5_11) hi.1 rfl ?_
  refine g_iconst (pc' := 5) (v := 0) dX5_copyFrom_4 rfl (by decide) ?_
  refine g_aload_n (pc' := 6) dX5_copyFrom_5 rfl 0 rfl rfl ?_
  refine g_getR (pc' := 9) (a := c) dX5_copyFrom_6 rfl (PLk.lf fX5_11) hk.1 rfl ?_
  refine g_iconst (pc' := 10) (v := 0) dX5_copyFrom_9 rfl (by decide) ?_
  refine g_aload_n (pc' := 11) dX5_copyFrom_10 rfl 1 rfl rfl ?_
  refine g_getI (pc' := 14) dX5_copyFrom_11 rfl (PLk.lf fX5_15) hi.1 rfl ?_
  refine g_iconst (pc' := 15) (v := 4) dX5_copyFrom_14 rfl (by decide) ?_
  refine g_imul (pc' := 16) dX5_copyFrom_15 rfl ?_
  refine g_copy (pc' := 19) (sp := 0) (dp := 0) (cn := (n * 4)) dX5_copyFrom_16 rfl (by decide) acX5_51 ac_nat ac_sta ac_ini hi.2 hk.2 (by decide) (by decide) (by rw [hz]; exact i40 n) (by omega) (by omega) (by decide) (by decide) (rm_nat (by omega)) ?_
  refine g_aload_n (pc' := 20) dX5_copyFrom_19 rfl 0 rfl rfl ?_
  refine g_aload_n (pc' := 21) dX5_copyFrom_20 rfl 1 rfl rfl ?_
  refine g_getI (pc' := 24) dX5_copyFrom_21 rfl (PLk.lf fX5_15) hi.1 rfl ?_
  refine g_putI (pc' := 27) dX5_copyFrom_24 rfl fX5_15 hk.1 rfl ?_
  exact g_vret dX5_copyFrom_27 rfl ⟨rfl, rfl⟩ rfl
