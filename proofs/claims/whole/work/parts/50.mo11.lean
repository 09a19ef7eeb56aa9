noncomputable section
theorem inN {x : Int32} {p q : Int64} {σ : Sg} (a k : Nat) (hp : p.toInt = a) (hq : q.toInt = k) (h : rX11_in x.toInt64 p q σ = true) : x = nI x.toNatClampNeg ∧ a ≤ x.toNatClampNeg ∧ x.toNatClampNeg ≤ k := by
  have e := in_i.mp h
  rw [hp, hq] at e
  have h0 : ¬ x < 0 := by rw [Int32.lt_iff_toInt_lt, show (0 : Int32).toInt = 0 from rfl]; omega
  refine ⟨nI_self h0, ?_⟩
  rw [Int32.toNatClampNeg]
  omega
theorem inR {x : Int32} {n : Nat} {y : Int32} {σ : Sg} (hz : y = nI n) (hn : n < 2 ^ 31) (h : rX11_in x.toInt64 0 (y - 1).toInt64 σ = true) : x = nI x.toNatClampNeg ∧ x.toNatClampNeg < n := by
  have e := in_i.mp h
  rw [hz, Int32.toInt_toInt64, nIm1 hn, show (0 : Int64).toInt = 0 from rfl] at e
  have h0 : ¬ x < 0 := by rw [Int32.lt_iff_toInt_lt, show (0 : Int32).toInt = 0 from rfl]; omega
  refine ⟨nI_self h0, ?_⟩
  rw [Int32.toNatClampNeg]
  omega
theorem i14x {x y : Int32} {s j : Nat} (hx : x = nI s) (hy : y = nI j) : 1 + 4 * x + y = nI (1 + 4 * s + j) := by rw [hx, hy, show (1 : Int32) = nI 1 from rfl, i14, nI_add]
theorem i14y {x : Int32} {c s : Nat} (hx : x = nI s) : nI c + 4 * x = nI (c + 4 * s) := by rw [hx]; exact i14 c s
def rX11_number (n : Nat) (x1 : Int32) (x2 : Int32) (σ : Sg) : Int32 := if (rX11_isSquare x1 σ) = true then if (rX11_in ((x2 : Int32).toInt64) 0 3 σ) = true then (σ.1 160 (1 + 4 * x1.toNatClampNeg + x2.toNatClampNeg)) + 1000000 else -1000000002 else -1000000001
set_option maxRecDepth 100000 in
set_option maxHeartbeats 4000000 in
theorem ev_X11_number {l : Launch} {b : Nat} {cy : Nat → ClassId} {D : va_G} {d : Nat} {n : Nat} {x1 : Int32} {x2 : Int32} {σ : Sg}  (hz : σ.1 160 0 = nI n) (hn : n ≤ 12) : Es l b cy D (d + 2) yX11_number cX11_number (Option.some Jvm.ClassFile.FieldType.int) 3 [.ref (b + 159), .int (x1), .int (x2)] σ (some (.int (rX11_number n x1 x2 σ))) σ := by
  refine Ev.of (by decide) (Nat.le_of_ble_eq_true rfl) rfl ?_
  refine g_aload_n (pc' := 1) dX11_number_0 rfl 0 rfl rfl ?_
  refine g_iload_n (pc' := 2) dX11_number_1 rfl 1 rfl rfl ?_
  refine g_callr (pc' := 5) dX11_number_2 rfl mX11_234 (ev_X11_isSquare (x1 := x1) (σ := σ)  (d := d)) o159 rfl (rm_ok (by omega) (by decide)) ⟨rfl, rfl⟩ ⟨Nat.zero_le _, Nat.zero_le _⟩ rfl rfl (Nat.le_of_ble_eq_true rfl) ?_
  refine g_ifb_ne (pc' := 8) (tgt := 11) dX11_number_5 rfl (by decide) (fun (c1 : (rX11_isSquare x1 σ) = true) => ?_) (fun (c1 : (rX11_isSquare x1 σ) = false) => ?_)
  · refine g_iload_n (pc' := 12) dX11_number_11 rfl 2 rfl rfl ?_
    refine g_i2l (pc' := 13) dX11_number_12 rfl ?_
    refine g_lconst (pc' := 14) (v := 0) dX11_number_13 rfl (by decide) ?_
    refine g_ldc2 (pc' := 17) dX11_number_14 rfl kX11_250 ?_
    refine g_callsr (pc' := 20) dX11_number_17 rfl mX11_53 (ev_X11_in (x1 := (x2 : Int32).toInt64) (x2 := 0) (x3 := 3) (σ := σ)  (d := d + 1)) (rm_ok (by omega) (by decide)) ⟨rfl, rfl⟩ ⟨Nat.zero_le _, Nat.zero_le _⟩ rfl rfl (Nat.le_of_ble_eq_true rfl) ?_
    refine g_ifb_eq (pc' := 23) (tgt := 41) dX11_number_20 rfl (by decide) (fun (c2 : (rX11_in ((x2 : Int32).toInt64) 0 3 σ) = false) => ?_) (fun (c2 : (rX11_in ((x2 : Int32).toInt64) 0 3 σ) = true) => ?_)
    · refine g_ldc (pc' := 43) dX11_number_41 rfl kX11_85 ?_
      exact g_iret dX11_number_43 rfl ⟨rfl, rfl⟩ (by simp only [rX11_number, if_pos c1, if_neg (bf c2), bI_t, bI_f])
    · have e1 := isq hz hn c1
      have e2 := inN 0 3 rfl rfl c2
      refine g_aload_n (pc' := 24) dX11_number_23 rfl 0 rfl rfl ?_
      refine g_getR (pc' := 27) (a := 160) dX11_number_24 rfl (PLk.lf fX11_7) o159 rfl ?_
      refine g_iconst (pc' := 28) (v := 1) dX11_number_27 rfl (by decide) ?_
      refine g_iconst (pc' := 29) (v := 4) dX11_number_28 rfl (by decide) ?_
      refine g_iload_n (pc' := 30) dX11_number_29 rfl 1 rfl rfl ?_
      refine g_imul (pc' := 31) dX11_number_30 rfl ?_
      refine g_iadd (pc' := 32) dX11_number_31 rfl ?_
      refine g_iload_n (pc' := 33) dX11_number_32 rfl 2 rfl rfl ?_
      refine g_iadd (pc' := 34) dX11_number_33 rfl ?_
      refine g_iald (pc' := 35) (j := (1 + 4 * x1.toNatClampNeg + x2.toNatClampNeg)) dX11_number_34 rfl o160 (by decide) (i14x e1.1 e2.1) (by have := e1.2; have := e2.2; omega) ?_
      refine g_ldc (pc' := 37) dX11_number_35 rfl kX11_252 ?_
      refine g_iadd (pc' := 38) dX11_number_37 rfl ?_
      refine g_goto (tgt := 43) dX11_number_38 (by decide) ?_
      exact g_iret dX11_number_43 rfl ⟨rfl, rfl⟩ (by simp only [rX11_number, if_pos c1, if_pos c2, bI_t, bI_f])
  · refine g_ldc (pc' := 10) dX11_number_8 rfl kX11_249 ?_
    exact g_iret dX11_number_10 rfl ⟨rfl, rfl⟩ (by simp only [rX11_number, if_neg (bf c1), bI_t, bI_f])
def rX11_ofSquare (n : Nat) (s : Nat) (x1 : Int32) (x2 : Int32) (σ : Sg) : Int32 := if (x2 : Int32) = 0 then ((sKn (sX11_takesFrom s x1 σ)).1) 159 15 else if (x2 : Int32) = 1 then ((((sKn (sX11_takesFrom s x1 σ)).2) 159 16 : Int64).toInt32) + 2000000 else if (x2 : Int32) = 2 then if (((sKn (sX11_takesFrom s x1 σ)).2) 159 16 : Int64) < 0 then 0 else 2 else if (x2 : Int32) = 3 then rX11_order (sKn (sX11_takesFrom s x1 σ)) else if (x2 : Int32) = 4 then if (((sKn (sX11_takesFrom s x1 σ)).1) 159 15 : Int32) = 2 then ((((sKn (sX11_takesFrom s x1 σ)).2) 159 17 : Int64).toInt32) + 3000000 else 0 else if (x2 : Int32) = 5 then ((sKn (sX11_takesFrom s x1 σ)).1) 159 19 else if (x2 : Int32) = 6 then ((sKn (sX11_takesFrom s x1 σ)).1) 159 20 else (((sKn (sX11_takesFrom s x1 σ)).2) 159 21 : Int64).toInt32
def sX11_ofSquare (n : Nat) (s : Nat) (x1 : Int32) (x2 : Int32) (σ : Sg) : Sg := if (x2 : Int32) = 0 then sKn (sX11_takesFrom s x1 σ) else if (x2 : Int32) = 1 then sKn (sX11_takesFrom s x1 σ) else if (x2 : Int32) = 2 then if (((sKn (sX11_takesFrom s x1 σ)).2) 159 16 : Int64) < 0 then sKn (sX11_takesFrom s x1 σ) else sKn (sX11_takesFrom s x1 σ) else if (x2 : Int32) = 3 then sKn (sX11_takesFrom s x1 σ) else if (x2 : Int32) = 4 then if (((sKn (sX11_takesFrom s x1 σ)).1) 159 15 : Int32) = 2 then sKn (sX11_takesFrom s x1 σ) else sKn (sX11_takesFrom s x1 σ) else if (x2 : Int32) = 5 then sKn (sX11_takesFrom s x1 σ) else if (x2 : Int32) = 6 then sKn (sX11_takesFrom s x1 σ) else sKn (sX11_takesFrom s x1 σ)
set_option maxRecDepth 100000 in
set_option maxHeartbeats 4000000 in
theorem ev_X11_ofSquare {l : Launch} {b : Nat} {cy : Nat → ClassId} {D : va_G} {d : Nat} {n : Nat} {s : Nat} {x1 : Int32} {x2 : Int32} {σ : Sg}  (hN : NowOk (σ.1 160) n) (hn : n ≤ 12) (q1 : x1 = nI s) (hs : s < n) : Es l b cy D (d + 4) yX11_ofSquare cX11_ofSquare (Option.some Jvm.ClassFile.FieldType.int) 3 [.ref (b + 159), .int (x1), .int (x2)] σ (some (.int (rX11_ofSquare n s x1 x2 σ))) (sX11_ofSquare n s x1 x2 σ) := by
  refine Ev.of (by decide) (Nat.le_of_ble_eq_true rfl) rfl ?_
  refine g_aload_n (pc' := 1) dX11_ofSquare_0 rfl 0 rfl rfl ?_
  refine g_iload_n (pc' := 2) dX11_ofSquare_1 rfl 1 rfl rfl ?_
  refine g_callv (pc' := 5) dX11_ofSquare_2 rfl mX11_207 (ev_X11_takesFrom (s := s) (x1 := x1) (σ := σ) q1 (Nat.lt_of_lt_of_le hs hn) (d := d + 2)) o159 rfl (rm_ok (by omega) (by decide)) ⟨rfl, rfl⟩ ⟨Nat.zero_le _, Nat.zero_le _⟩ rfl rfl (Nat.le_of_ble_eq_true rfl) ?_
  refine g_aload_n (pc' := 6) dX11_ofSquare_5 rfl 0 rfl rfl ?_
  refine g_callv (pc' := 9) dX11_ofSquare_6 rfl mX11_210 (ev_X11_knows (σ := sX11_takesFrom s x1 σ) (hN s hs σ x1 rfl).1 (d := d)) o159 rfl (rm_ok (by omega) (by decide)) ⟨rfl, rfl⟩ ⟨Nat.zero_le _, Nat.zero_le _⟩ rfl rfl (Nat.le_of_ble_eq_true rfl) ?_
  refine g_iload_n (pc' := 10) dX11_ofSquare_9 rfl 2 rfl rfl ?_
  by_cases c1 : (x2 : Int32) = 0
  · refine g_tabIn (tgt := 52) 0 dX11_ofSquare_10 c1 (by decide) (by decide) rfl (by decide) ?_
    refine g_aload_n (pc' := 53) dX11_ofSquare_52 rfl 0 rfl rfl ?_
    refine g_getI (pc' := 56) dX11_ofSquare_53 rfl (PLk.lf fX11_168) o159 rfl ?_
    exact g_iret dX11_ofSquare_56 rfl ⟨rfl, rfl⟩ (by simp only [rX11_ofSquare, sX11_ofSquare, if_pos c1, bI_t, bI_f])
  by_cases c2 : (x2 : Int32) = 1
  · refine g_tabIn (tgt := 57) 1 dX11_ofSquare_10 c2 (by decide) (by decide) rfl (by decide) ?_
    refine g_aload_n (pc' := 58) dX11_ofSquare_57 rfl 0 rfl rfl ?_
    refine g_getL (pc' := 61) dX11_ofSquare_58 rfl (PLk.lf fX11_126) o159 rfl ?_
    refine g_l2i (pc' := 62) dX11_ofSquare_61 rfl ?_
    refine g_ldc (pc' := 64) dX11_ofSquare_62 rfl kX11_253 ?_
    refine g_iadd (pc' := 65) dX11_ofSquare_64 rfl ?_
    exact g_iret dX11_ofSquare_65 rfl ⟨rfl, rfl⟩ (by simp only [rX11_ofSquare, sX11_ofSquare, if_neg c1, if_pos c2, bI_t, bI_f])
  by_cases c3 : (x2 : Int32) = 2
  · refine g_tabIn (tgt := 66) 2 dX11_ofSquare_10 c3 (by decide) (by decide) rfl (by decide) ?_
    refine g_aload_n (pc' := 67) dX11_ofSquare_66 rfl 0 rfl rfl ?_
    refine g_getL (pc' := 70) dX11_ofSquare_67 rfl (PLk.lf fX11_126) o159 rfl ?_
    refine g_lconst (pc' := 71) (v := 0) dX11_ofSquare_70 rfl (by decide) ?_
    refine g_lif_ge (pc' := 75) (tgt := 79) dX11_ofSquare_71 dX11_ofSquare_72 rfl (by decide) (fun (c4 : ¬ (((sKn (sX11_takesFrom s x1 σ)).2) 159 16 : Int64) < 0) => ?_) (fun (c4 : (((sKn (sX11_takesFrom s x1 σ)).2) 159 16 : Int64) < 0) => ?_)
    · refine g_iconst (pc' := 80) (v := 2) dX11_ofSquare_79 rfl (by decide) ?_
      exact g_iret dX11_ofSquare_80 rfl ⟨rfl, rfl⟩ (by simp only [rX11_ofSquare, sX11_ofSquare, if_neg c1, if_neg c2, if_pos c3, if_neg c4, bI_t, bI_f])
    · refine g_iconst (pc' := 76) (v := 0) dX11_ofSquare_75 rfl (by decide) ?_
      refine g_goto (tgt := 80) dX11_ofSquare_76 (by decide) ?_
      exact g_iret dX11_ofSquare_80 rfl ⟨rfl, rfl⟩ (by simp only [rX11_ofSquare, sX11_ofSquare, if_neg c1, if_neg c2, if_pos c3, if_pos c4, bI_t, bI_f])
  by_cases c5 : (x2 : Int32) = 3
  · refine g_tabIn (tgt := 81) 3 dX11_ofSquare_10 c5 (by decide) (by decide) rfl (by decide) ?_
    refine g_aload_n (pc' := 82) dX11_ofSquare_81 rfl 0 rfl rfl ?_
    refine g_callr (pc' := 85) dX11_ofSquare_82 rfl mX11_254 (ev_X11_order  (σ := sKn (sX11_takesFrom s x1 σ))  (d := d + 3)) o159 rfl (rm_ok (by omega) (by decide)) ⟨rfl, rfl⟩ ⟨Nat.zero_le _, Nat.zero_le _⟩ rfl rfl (Nat.le_of_ble_eq_true rfl) ?_
    exact g_iret dX11_ofSquare_85 rfl ⟨rfl, rfl⟩ (by simp only [rX11_ofSquare, sX11_ofSquare, if_neg c1, if_neg c2, if_neg c3, if_pos c5, bI_t, bI_f])
  by_cases c6 : (x2 : Int32) = 4
  · refine g_tabIn (tgt := 86) 4 dX11_ofSquare_10 c6 (by decide) (by decide) rfl (by decide) ?_
    refine g_aload_n (pc' := 87) dX11_ofSquare_86 rfl 0 rfl rfl ?_
    refine g_getI (pc' := 90) dX11_ofSquare_87 rfl (PLk.lf fX11_168) o159 rfl ?_
    refine g_iconst (pc' := 91) (v := 2) dX11_ofSquare_90 rfl (by decide) ?_
    refine g_icmp_ne (pc' := 94) (tgt := 106) dX11_ofSquare_91 rfl (by decide) (fun (c7 : ¬ (((sKn (sX11_takesFrom s x1 σ)).1) 159 15 : Int32) = 2) => ?_) (fun (c7 : (((sKn (sX11_takesFrom s x1 σ)).1) 159 15 : Int32) = 2) => ?_)
    · refine g_iconst (pc' := 107) (v := 0) dX11_ofSquare_106 rfl (by decide) ?_
      exact g_iret dX11_ofSquare_107 rfl ⟨rfl, rfl⟩ (by simp only [rX11_ofSquare, sX11_ofSquare, if_neg c1, if_neg c2, if_neg c3, if_neg c5, if_pos c6, if_neg c7, bI_t, bI_f])
    · refine g_aload_n (pc' := 95) dX11_ofSquare_94 rfl 0 rfl rfl ?_
      refine g_getL (pc' := 98) dX11_ofSquare_95 rfl (PLk.lf fX11_160) o159 rfl ?_
      refine g_l2i (pc' := 99) dX11_ofSquare_98 rfl ?_
      refine g_ldcw (pc' := 102) dX11_ofSquare_99 rfl kX11_257 ?_
      refine g_iadd (pc' := 103) dX11_ofSquare_102 rfl ?_
      refine g_goto (tgt := 107) dX11_ofSquare_103 (by decide) ?_
      exact g_iret dX11_ofSquare_107 rfl ⟨rfl, rfl⟩ (by simp only [rX11_ofSquare, sX11_ofSquare, if_neg c1, if_neg c2, if_neg c3, if_neg c5, if_pos c6, if_pos c7, bI_t, bI_f])
  by_cases c8 : (x2 : Int32) = 5
  · refine g_tabIn (tgt := 108) 5 dX11_ofSquare_10 c8 (by decide) (by decide) rfl (by decide) ?_
    refine g_aload_n (pc' := 109) dX11_ofSquare_108 rfl 0 rfl rfl ?_
    refine g_getI (pc' := 112) dX11_ofSquare_109 rfl (PLk.lf fX11_140) o159 rfl ?_
    exact g_iret dX11_ofSquare_112 rfl ⟨rfl, rfl⟩ (by simp only [rX11_ofSquare, sX11_ofSquare, if_neg c1, if_neg c2, if_neg c3, if_neg c5, if_neg c6, if_pos c8, bI_t, bI_f])
  by_cases c9 : (x2 : Int32) = 6
  · refine g_tabIn (tgt := 113) 6 dX11_ofSquare_10 c9 (by decide) (by decide) rfl (by decide) ?_
    refine g_aload_n (pc' := 114) dX11_ofSquare_113 rfl 0 rfl rfl ?_
    refine g_getI (pc' := 117) dX11_ofSquare_114 rfl (PLk.lf fX11_146) o159 rfl ?_
    exact g_iret dX11_ofSquare_117 rfl ⟨rfl, rfl⟩ (by simp only [rX11_ofSquare, sX11_ofSquare, if_neg c1, if_neg c2, if_neg c3, if_neg c5, if_neg c6, if_neg c8, if_pos c9, bI_t, bI_f])
  refine g_tabOut (tgt := 118) dX11_ofSquare_10 (by have hh := And.intro trivial trivial; have hh0 := lv_neT c1 (a := 0) (by decide); have hh1 := lv_neT c2 (a := 1) (by decide); have hh2 := lv_neT c3 (a := 2) (by decide); have hh3 := lv_neT c5 (a := 3) (by decide); have hh4 := lv_neT c6 (a := 4) (by decide); have hh5 := lv_neT c8 (a := 5) (by decide); have hh6 := lv_neT c9 (a := 6) (by decide); omega) (by decide) ?_
  refine g_aload_n (pc' := 119) dX11_ofSquare_118 rfl 0 rfl rfl ?_
  refine g_getL (pc' := 122) dX11_ofSquare_119 rfl (PLk.lf fX11_143) o159 rfl ?_
  refine g_l2i (pc' := 123) dX11_ofSquare_122 rfl ?_
  exact g_iret dX11_ofSquare_123 rfl ⟨rfl, rfl⟩ (by simp only [rX11_ofSquare, sX11_ofSquare, if_neg c1, if_neg c2, if_neg c3, if_neg c5, if_neg c6, if_neg c8, if_neg c9, bI_t, bI_f])
def rX11_square (n : Nat) (x1 : Int32) (x2 : Int32) (σ : Sg) : Int32 := if (rX11_isSquare x1 σ) = true then if (rX11_in ((x2 : Int32).toInt64) 0 10 σ) = true then if (x2 : Int32) = 7 then if (rX11_isTwin n x1.toNatClampNeg x1 σ) = true then 1 else 0 else if (x2 : Int32) = 9 then if (rX11_isMirrored n x1.toNatClampNeg x1 σ) = true then 1 else 0 else if (x2 : Int32) = 8 then (fmF n 0 0 (sX11_asides n x1.toNatClampNeg x1 σ)).1 else rX11_ofSquare n x1.toNatClampNeg x1 x2 σ else -1000000002 else -1000000001
def sX11_square (n : Nat) (x1 : Int32) (x2 : Int32) (σ : Sg) : Sg := if (rX11_isSquare x1 σ) = true then if (rX11_in ((x2 : Int32).toInt64) 0 10 σ) = true then if (x2 : Int32) = 7 then if (rX11_isTwin n x1.toNatClampNeg x1 σ) = true then sX11_isTwin n x1.toNatClampNeg x1 σ else sX11_isTwin n x1.toNatClampNeg x1 σ else if (x2 : Int32) = 9 then if (rX11_isMirrored n x1.toNatClampNeg x1 σ) = true then sX11_isMirrored n x1.toNatClampNeg x1 σ else sX11_isMirrored n x1.toNatClampNeg x1 σ else if (x2 : Int32) = 8 then (fmF n 0 0 (sX11_asides n x1.toNatClampNeg x1 σ)).2 else sX11_ofSquare n x1.toNatClampNeg x1 x2 σ else σ else σ
set_option maxRecDepth 100000 in
set_option maxHeartbeats 4000000 in
theorem ev_X11_square {l : Launch} {b : Nat} {cy : Nat → ClassId} {D : va_G} {d : Nat} {n : Nat} {x1 : Int32} {x2 : Int32} {σ : Sg}  (hN : NowOk (σ.1 160) n) (hn : n ≤ 12) (hz : σ.1 160 0 = nI n) : Es l b cy D (d + 6) yX11_square cX11_square (Option.some Jvm.ClassFile.FieldType.int) 4 [.ref (b + 159), .int (x1), .int (x2)] σ (some (.int (rX11_square n x1 x2 σ))) (sX11_square n x1 x2 σ) := by
  refine Ev.of (by decide) (Nat.le_of_ble_eq_true rfl) rfl ?_
  refine g_aload_n (pc' := 1) dX11_square_0 rfl 0 rfl rfl ?_
  refine g_iload_n (pc' := 2) dX11_square_1 rfl 1 rfl rfl ?_
  refine g_callr (pc' := 5) dX11_square_2 rfl mX11_234 (ev_X11_isSquare (x1 := x1) (σ := σ)  (d := d + 4)) o159 rfl (rm_ok (by omega) (by decide)) ⟨rfl, rfl⟩ ⟨Nat.zero_le _, Nat.zero_le _⟩ rfl rfl (Nat.le_of_ble_eq_true rfl) ?_
  refine g_ifb_ne (pc' := 8) (tgt := 11) dX11_square_5 rfl (by decide) (fun (c1 : (rX11_isSquare x1 σ) = true) => ?_) (fun (c1 : (rX11_isSquare x1 σ) = false) => ?_)
  · refine g_iload_n (pc' := 12) dX11_square_11 rfl 2 rfl rfl ?_
    refine g_i2l (pc' := 13) dX11_square_12 rfl ?_
    refine g_lconst (pc' := 14) (v := 0) dX11_square_13 rfl (by decide) ?_
    refine g_ldc2 (pc' := 17) dX11_square_14 rfl kX11_258 ?_
    refine g_callsr (pc' := 20) dX11_square_17 rfl mX11_53 (ev_X11_in (x1 := (x2 : Int32).toInt64) (x2 := 0) (x3 := 10) (σ := σ)  (d := d + 5)) (rm_ok (by omega) (by decide)) ⟨rfl, rfl⟩ ⟨Nat.zero_le _, Nat.zero_le _⟩ rfl rfl (Nat.le_of_ble_eq_true rfl) ?_
    refine g_ifb_ne (pc' := 23) (tgt := 26) dX11_square_20 rfl (by decide) (fun (c2 : (rX11_in ((x2 : Int32).toInt64) 0 10 σ) = true) => ?_) (fun (c2 : (rX11_in ((x2 : Int32).toInt64) 0 10 σ) = false) => ?_)
    · have e1 := isq hz hn c1
      refine g_iload_n (pc' := 27) dX11_square_26 rfl 2 rfl rfl ?_
      refine g_bipush (pc' := 29) (v := 7) dX11_square_27 rfl (by decide) ?_
      refine g_icmp_eq (pc' := 32) (tgt := 38) dX11_square_29 rfl (by decide) (fun (c3 : (x2 : Int32) = 7) => ?_) (fun (c3 : ¬ (x2 : Int32) = 7) => ?_)
      · refine g_iload_n (pc' := 39) dX11_square_38 rfl 2 rfl rfl ?_
        refine g_bipush (pc' := 41) (v := 7) dX11_square_39 rfl (by decide) ?_
        refine g_icmp_ne (pc' := 44) (tgt := 52) dX11_square_41 rfl (by decide) (fun z => absurd c3 z) (fun _ => ?_)
        refine g_aload_n (pc' := 45) dX11_square_44 rfl 0 rfl rfl ?_
        refine g_iload_n (pc' := 46) dX11_square_45 rfl 1 rfl rfl ?_
        refine g_callr (pc' := 49) dX11_square_46 rfl mX11_228 (ev_X11_isTwin (n := n) (s := x1.toNatClampNeg) (x1 := x1) (σ := σ) hN hn e1.1 e1.2 (d := d)) o159 rfl (rm_ok (by omega) (by decide)) ⟨rfl, rfl⟩ ⟨Nat.zero_le _, Nat.zero_le _⟩ rfl rfl (Nat.le_of_ble_eq_true rfl) ?_
        refine g_goto (tgt := 57) dX11_square_49 (by decide) ?_
        refine g_istore_n (pc' := 58) (j := 3) (lv' := [(3, .int (bI (rX11_isTwin n x1.toNatClampNeg x1 σ))), (0, .ref (b + 159)), (1, .int (x1)), (2, .int (x2))]) dX11_square_57 rfl rfl (by decide) rfl ?_
        refine g_iload_n (pc' := 59) dX11_square_58 rfl 0 rfl rfl ?_
        refine g_ifb_eq (pc' := 62) (tgt := 66) dX11_square_59 rfl (by decide) (fun (c5 : (rX11_isTwin n x1.toNatClampNeg x1 σ) = false) => ?_) (fun (c5 : (rX11_isTwin n x1.toNatClampNeg x1 σ) = true) => ?_)
        · refine g_iconst (pc' := 67) (v := 0) dX11_square_66 rfl (by decide) ?_
          exact g_iret dX11_square_67 rfl ⟨rfl, rfl⟩ (by simp only [rX11_square, sX11_square, if_pos c1, if_pos c2, if_pos c3, if_neg (bf c5), bI_t, bI_f])
        · refine g_iconst (pc' := 63) (v := 1) dX11_square_62 rfl (by decide) ?_
          refine g_goto (tgt := 67) dX11_square_63 (by decide) ?_
          exact g_iret dX11_square_67 rfl ⟨rfl, rfl⟩ (by simp only [rX11_square, sX11_square, if_pos c1, if_pos c2, if_pos c3, if_pos c5, bI_t, bI_f])
      · refine g_iload_n (pc' := 33) dX11_square_32 rfl 2 rfl rfl ?_
        refine g_bipush (pc' := 35) (v := 9) dX11_square_33 rfl (by decide) ?_
        refine g_icmp_ne (pc' := 38) (tgt := 68) dX11_square_35 rfl (by decide) (fun (c6 : ¬ (x2 : Int32) = 9) => ?_) (fun (c6 : (x2 : Int32) = 9) => ?_)
        · refine g_iload_n (pc' := 69) dX11_square_68 rfl 2 rfl rfl ?_
          refine g_bipush (pc' := 71) (v := 8) dX11_square_69 rfl (by decide) ?_
          refine g_icmp_ne (pc' := 74) (tgt := 82) dX11_square_71 rfl (by decide) (fun (c7 : ¬ (x2 : Int32) = 8) => ?_) (fun (c7 : (x2 : Int32) = 8) => ?_)
          · refine g_aload_n (pc' := 83) dX11_square_82 rfl 0 rfl rfl ?_
            refine g_iload_n (pc' := 84) dX11_square_83 rfl 1 rfl rfl ?_
            refine g_iload_n (pc' := 85) dX11_square_84 rfl 2 rfl rfl ?_
            refine g_callr (pc' := 88) dX11_square_85 rfl mX11_263 (ev_X11_ofSquare (n := n) (s := x1.toNatClampNeg) (x1 := x1) (x2 := x2) (σ := σ) hN hn e1.1 e1.2 (d := d + 1)) o159 rfl (rm_ok (by omega) (by decide)) ⟨rfl, rfl⟩ ⟨Nat.zero_le _, Nat.zero_le _⟩ rfl rfl (Nat.le_of_ble_eq_true rfl) ?_
            exact g_iret dX11_square_88 rfl ⟨rfl, rfl⟩ (by simp only [rX11_square, sX11_square, if_pos c1, if_pos c2, if_neg c3, if_neg c6, if_neg c7, bI_t, bI_f])
          · refine g_aload_n (pc' := 75) dX11_square_74 rfl 0 rfl rfl ?_
            refine g_iload_n (pc' := 76) dX11_square_75 rfl 1 rfl rfl ?_
            refine g_callr (pc' := 79) dX11_square_76 rfl mX11_222 (ev_X11_family (x1 := x1) (n := n) (s := x1.toNatClampNeg) (σ := σ) hN hn e1.1 e1.2 hz (d := d)) o159 rfl (rm_ok (by omega) (by decide)) ⟨rfl, rfl⟩ ⟨Nat.zero_le _, Nat.zero_le _⟩ rfl rfl (Nat.le_of_ble_eq_true rfl) ?_
            refine g_goto (tgt := 88) dX11_square_79 (by decide) ?_
            exact g_iret dX11_square_88 rfl ⟨rfl, rfl⟩ (by simp only [rX11_square, sX11_square, if_pos c1, if_pos c2, if_neg c3, if_neg c6, if_pos c7, bI_t, bI_f])
        · refine g_iload_n (pc' := 39) dX11_square_38 rfl 2 rfl rfl ?_
          refine g_bipush (pc' := 41) (v := 7) dX11_square_39 rfl (by decide) ?_
          refine g_icmp_ne (pc' := 44) (tgt := 52) dX11_square_41 rfl (by decide) (fun _ => ?_) (fun z => absurd z c3)
          refine g_aload_n (pc' := 53) dX11_square_52 rfl 0 rfl rfl ?_
          refine g_iload_n (pc' := 54) dX11_square_53 rfl 1 rfl rfl ?_
          refine g_callr (pc' := 57) dX11_square_54 rfl mX11_260 (ev_X11_isMirrored (n := n) (s := x1.toNatClampNeg) (x1 := x1) (σ := σ) hN hn e1.1 e1.2 (d := d)) o159 rfl (rm_ok (by omega) (by decide)) ⟨rfl, rfl⟩ ⟨Nat.zero_le _, Nat.zero_le _⟩ rfl rfl (Nat.le_of_ble_eq_true rfl) ?_
          refine g_istore_n (pc' := 58) (j := 3) (lv' := [(3, .int (bI (rX11_isMirrored n x1.toNatClampNeg x1 σ))), (0, .ref (b + 159)), (1, .int (x1)), (2, .int (x2))]) dX11_square_57 rfl rfl (by decide) rfl ?_
          refine g_iload_n (pc' := 59) dX11_square_58 rfl 0 rfl rfl ?_
          refine g_ifb_eq (pc' := 62) (tgt := 66) dX11_square_59 rfl (by decide) (fun (c9 : (rX11_isMirrored n x1.toNatClampNeg x1 σ) = false) => ?_) (fun (c9 : (rX11_isMirrored n x1.toNatClampNeg x1 σ) = true) => ?_)
          · refine g_iconst (pc' := 67) (v := 0) dX11_square_66 rfl (by decide) ?_
            exact g_iret dX11_square_67 rfl ⟨rfl, rfl⟩ (by simp only [rX11_square, sX11_square, if_pos c1, if_pos c2, if_neg c3, if_pos c6, if_neg (bf c9), bI_t, bI_f])
          · refine g_iconst (pc' := 63) (v := 1) dX11_square_62 rfl (by decide) ?_
            refine g_goto (tgt := 67) dX11_square_63 (by decide) ?_
            exact g_iret dX11_square_67 rfl ⟨rfl, rfl⟩ (by simp only [rX11_square, sX11_square, if_pos c1, if_pos c2, if_neg c3, if_pos c6, if_pos c9, bI_t, bI_f])
    · refine g_ldc (pc' := 25) dX11_square_23 rfl kX11_85 ?_
      exact g_iret dX11_square_25 rfl ⟨rfl, rfl⟩ (by simp only [rX11_square, sX11_square, if_pos c1, if_neg (bf c2), bI_t, bI_f])
  · refine g_ldc (pc' := 10) dX11_square_8 rfl kX11_249 ?_
    exact g_iret dX11_square_10 rfl ⟨rfl, rfl⟩ (by simp only [rX11_square, sX11_square, if_neg (bf c1), bI_t, bI_f])
def rX11_run (n : Nat) (x1 : Int32) (x2 : Int32) (σ : Sg) : Int32 := if (rX11_isSquare x1 σ) = true then if (rX11_in ((x2 : Int32).toInt64) 0 (((((sKn (sX11_takesFrom x1.toNatClampNeg x1 σ)).1) 159 19) - 1 : Int32).toInt64) (sKn (sX11_takesFrom x1.toNatClampNeg x1 σ))) = true then ((sKn (sX11_takesFrom x1.toNatClampNeg x1 σ)).1) 166 x2.toNatClampNeg else -1 else -1000000001
def sX11_run (n : Nat) (x1 : Int32) (x2 : Int32) (σ : Sg) : Sg := if (rX11_isSquare x1 σ) = true then if (rX11_in ((x2 : Int32).toInt64) 0 (((((sKn (sX11_takesFrom x1.toNatClampNeg x1 σ)).1) 159 19) - 1 : Int32).toInt64) (sKn (sX11_takesFrom x1.toNatClampNeg x1 σ))) = true then sKn (sX11_takesFrom x1.toNatClampNeg x1 σ) else sKn (sX11_takesFrom x1.toNatClampNeg x1 σ) else σ
set_option maxRecDepth 100000 in
set_option maxHeartbeats 4000000 in
theorem ev_X11_run {l : Launch} {b : Nat} {cy : Nat → ClassId} {D : va_G} {d : Nat} {n : Nat} {x1 : Int32} {x2 : Int32} {σ : Sg}  (hN : NowOk (σ.1 160) n) (hn : n ≤ 12) (hz : σ.1 160 0 = nI n) : Es l b cy D (d + 4) yX11_run cX11_run (Option.some Jvm.ClassFile.FieldType.int) 3 [.ref (b + 159), .int (x1), .int (x2)] σ (some (.int (rX11_run n x1 x2 σ))) (sX11_run n x1 x2 σ) := by
  refine Ev.of (by decide) (Nat.le_of_ble_eq_true rfl) rfl ?_
  refine g_aload_n (pc' := 1) dX11_run_0 rfl 0 rfl rfl ?_
  refine g_iload_n (pc' := 2) dX11_run_1 rfl 1 rfl rfl ?_
  refine g_callr (pc' := 5) dX11_run_2 rfl mX11_234 (ev_X11_isSquare (x1 := x1) (σ := σ)  (d := d + 2)) o159 rfl (rm_ok (by omega) (by decide)) ⟨rfl, rfl⟩ ⟨Nat.zero_le _, Nat.zero_le _⟩ rfl rfl (Nat.le_of_ble_eq_true rfl) ?_
  refine g_ifb_ne (pc' := 8) (tgt := 11) dX11_run_5 rfl (by decide) (fun (c1 : (rX11_isSquare x1 σ) = true) => ?_) (fun (c1 : (rX11_isSquare x1 σ) = false) => ?_)
  · have e1 := isq hz hn c1
    refine g_aload_n (pc' := 12) dX11_run_11 rfl 0 rfl rfl ?_
    refine g_iload_n (pc' := 13) dX11_run_12 rfl 1 rfl rfl ?_
    refine g_callv (pc' := 16) dX11_run_13 rfl mX11_207 (ev_X11_takesFrom (s := x1.toNatClampNeg) (x1 := x1) (σ := σ) e1.1 (Nat.lt_of_lt_of_le e1.2 hn) (d := d + 2)) o159 rfl (rm_ok (by omega) (by decide)) ⟨rfl, rfl⟩ ⟨Nat.zero_le _, Nat.zero_le _⟩ rfl rfl (Nat.le_of_ble_eq_true rfl) ?_
    refine g_aload_n (pc' := 17) dX11_run_16 rfl 0 rfl rfl ?_
    refine g_callv (pc' := 20) dX11_run_17 rfl mX11_210 (ev_X11_knows (σ := sX11_takesFrom x1.toNatClampNeg x1 σ) (hN x1.toNatClampNeg e1.2 σ x1 rfl).1 (d := d)) o159 rfl (rm_ok (by omega) (by decide)) ⟨rfl, rfl⟩ ⟨Nat.zero_le _, Nat.zero_le _⟩ rfl rfl (Nat.le_of_ble_eq_true rfl) ?_
    refine g_iload_n (pc' := 21) dX11_run_20 rfl 2 rfl rfl ?_
    refine g_i2l (pc' := 22) dX11_run_21 rfl ?_
    refine g_lconst (pc' := 23) (v := 0) dX11_run_22 rfl (by decide) ?_
    refine g_aload_n (pc' := 24) dX11_run_23 rfl 0 rfl rfl ?_
    refine g_getI (pc' := 27) dX11_run_24 rfl (PLk.lf fX11_140) o159 rfl ?_
    refine g_iconst (pc' := 28) (v := 1) dX11_run_27 rfl (by decide) ?_
    refine g_isub (pc' := 29) dX11_run_28 rfl ?_
    refine g_i2l (pc' := 30) dX11_run_29 rfl ?_
    refine g_callsr (pc' := 33) dX11_run_30 rfl mX11_53 (ev_X11_in (x1 := (x2 : Int32).toInt64) (x2 := 0) (x3 := ((((sKn (sX11_takesFrom x1.toNatClampNeg x1 σ)).1) 159 19) - 1 : Int32).toInt64) (σ := sKn (sX11_takesFrom x1.toNatClampNeg x1 σ))  (d := d + 3)) (rm_ok (by omega) (by decide)) ⟨rfl, rfl⟩ ⟨Nat.zero_le _, Nat.zero_le _⟩ rfl rfl (Nat.le_of_ble_eq_true rfl) ?_
    refine g_ifb_eq (pc' := 36) (tgt := 45) dX11_run_33 rfl (by decide) (fun (c2 : (rX11_in ((x2 : Int32).toInt64) 0 (((((sKn (sX11_takesFrom x1.toNatClampNeg x1 σ)).1) 159 19) - 1 : Int32).toInt64) (sKn (sX11_takesFrom x1.toNatClampNeg x1 σ))) = false) => ?_) (fun (c2 : (rX11_in ((x2 : Int32).toInt64) 0 (((((sKn (sX11_takesFrom x1.toNatClampNeg x1 σ)).1) 159 19) - 1 : Int32).toInt64) (sKn (sX11_takesFrom x1.toNatClampNeg x1 σ))) = true) => ?_)
    · refine g_iconst (pc' := 46) (v := -1) dX11_run_45 rfl (by decide) ?_
      exact g_iret dX11_run_46 rfl ⟨rfl, rfl⟩ (by simp only [rX11_run, sX11_run, if_pos c1, if_neg (bf c2), bI_t, bI_f])
    · have e3 := inR (kM_ok (hN x1.toNatClampNeg e1.2 σ x1 rfl).1).1 (Nat.lt_of_le_of_lt (kM_ok (hN x1.toNatClampNeg e1.2 σ x1 rfl).1).2 (by decide)) c2
      have e4 := (kM_ok (hN x1.toNatClampNeg e1.2 σ x1 rfl).1).2
      refine g_aload_n (pc' := 37) dX11_run_36 rfl 0 rfl rfl ?_
      refine g_getR (pc' := 40) (a := 166) dX11_run_37 rfl (PLk.lf fX11_33) o159 rfl ?_
      refine g_iload_n (pc' := 41) dX11_run_40 rfl 2 rfl rfl ?_
      refine g_iald (pc' := 42) (j := x2.toNatClampNeg) dX11_run_41 rfl o166 (by decide) e3.1 (Nat.lt_of_lt_of_le e3.2 (Nat.le_trans e4 (by decide))) ?_
      refine g_goto (tgt := 46) dX11_run_42 (by decide) ?_
      exact g_iret dX11_run_46 rfl ⟨rfl, rfl⟩ (by simp only [rX11_run, sX11_run, if_pos c1, if_pos c2, bI_t, bI_f])
  · refine g_ldc (pc' := 10) dX11_run_8 rfl kX11_249 ?_
    exact g_iret dX11_run_10 rfl ⟨rfl, rfl⟩ (by simp only [rX11_run, sX11_run, if_neg (bf c1), bI_t, bI_f])
end
