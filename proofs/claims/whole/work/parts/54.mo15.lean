noncomputable section
theorem g_st {l : Launch} {b : Nat} {cy : Nat → ClassId} {D : va_G} {R : Room} {y : MethodName} {cc : ByteArray} {ret : Option FieldType} {nL mc ms : Nat} {Z : Zt} {pc : Nat} {lv : List (Nat × Value)} {st : List Value} {kc ks : Nat} {sh : Nat → Shp} {n : Nat} {σ σ' : Sg} (h : σ = σ') (k : G l b cy D R y cc ret nL mc ms Z pc lv st kc ks sh n σ') : G l b cy D R y cc ret nL mc ms Z pc lv st kc ks sh n σ := h ▸ k
def gt1 (s u : Nat) (x1 x2 : Int32) (σ : Sg) : Sg := sX11_multiplies ((((sX11_takesFrom s x1 σ).1) 160 (1 + 4 * u) : Int32).toInt64) ((((sX11_takesFrom s x1 σ).1) 160 (2 + 4 * u) : Int32).toInt64) ((((sX11_takesFrom s x1 σ).1) 160 (3 + 4 * u) : Int32).toInt64) ((((sX11_takesFrom s x1 σ).1) 160 (4 + 4 * u) : Int32).toInt64) (sX11_takesFrom s x1 σ)
def gt2 (s u : Nat) (x1 x2 : Int32) (σ : Sg) : Sg := ((gt1 s u x1 x2 σ).1, u2 (u2 (u2 (u2 ((gt1 s u x1 x2 σ).2) 170 0 (((gt1 s u x1 x2 σ).2) 159 11)) 170 1 ((u2 ((gt1 s u x1 x2 σ).2) 170 0 (((gt1 s u x1 x2 σ).2) 159 11)) 159 12)) 170 2 ((u2 (u2 ((gt1 s u x1 x2 σ).2) 170 0 (((gt1 s u x1 x2 σ).2) 159 11)) 170 1 ((u2 ((gt1 s u x1 x2 σ).2) 170 0 (((gt1 s u x1 x2 σ).2) 159 11)) 159 12)) 159 13)) 170 3 ((u2 (u2 (u2 ((gt1 s u x1 x2 σ).2) 170 0 (((gt1 s u x1 x2 σ).2) 159 11)) 170 1 ((u2 ((gt1 s u x1 x2 σ).2) 170 0 (((gt1 s u x1 x2 σ).2) 159 11)) 159 12)) 170 2 ((u2 (u2 ((gt1 s u x1 x2 σ).2) 170 0 (((gt1 s u x1 x2 σ).2) 159 11)) 170 1 ((u2 ((gt1 s u x1 x2 σ).2) 170 0 (((gt1 s u x1 x2 σ).2) 159 11)) 159 12)) 159 13)) 159 14))
def gt3 (s u : Nat) (x1 x2 : Int32) (σ : Sg) : Sg := sX11_multiplies ((((sX11_takesFrom u x2 (gt2 s u x1 x2 σ)).1) 160 (1 + 4 * s) : Int32).toInt64) ((((sX11_takesFrom u x2 (gt2 s u x1 x2 σ)).1) 160 (2 + 4 * s) : Int32).toInt64) ((((sX11_takesFrom u x2 (gt2 s u x1 x2 σ)).1) 160 (3 + 4 * s) : Int32).toInt64) ((((sX11_takesFrom u x2 (gt2 s u x1 x2 σ)).1) 160 (4 + 4 * s) : Int32).toInt64) (sX11_takesFrom u x2 (gt2 s u x1 x2 σ))
def rX11_goTogether (s : Nat) (u : Nat) (x1 : Int32) (x2 : Int32) (σ : Sg) : Bool := if (((gt3 s u x1 x2 σ).2) 159 11 : Int64) = (((gt3 s u x1 x2 σ).2) 170 0) then if (((gt3 s u x1 x2 σ).2) 159 12 : Int64) = (((gt3 s u x1 x2 σ).2) 170 1) then if (((gt3 s u x1 x2 σ).2) 159 13 : Int64) = (((gt3 s u x1 x2 σ).2) 170 2) then if (((gt3 s u x1 x2 σ).2) 159 14 : Int64) = (((gt3 s u x1 x2 σ).2) 170 3) then true else false else false else false else false
def sX11_goTogether (s : Nat) (u : Nat) (x1 : Int32) (x2 : Int32) (σ : Sg) : Sg := if (((gt3 s u x1 x2 σ).2) 159 11 : Int64) = (((gt3 s u x1 x2 σ).2) 170 0) then if (((gt3 s u x1 x2 σ).2) 159 12 : Int64) = (((gt3 s u x1 x2 σ).2) 170 1) then if (((gt3 s u x1 x2 σ).2) 159 13 : Int64) = (((gt3 s u x1 x2 σ).2) 170 2) then if (((gt3 s u x1 x2 σ).2) 159 14 : Int64) = (((gt3 s u x1 x2 σ).2) 170 3) then gt3 s u x1 x2 σ else gt3 s u x1 x2 σ else gt3 s u x1 x2 σ else gt3 s u x1 x2 σ else gt3 s u x1 x2 σ
set_option maxRecDepth 100000 in
set_option maxHeartbeats 4000000 in
theorem ev_X11_goTogether {l : Launch} {b : Nat} {cy : Nat → ClassId} {D : va_G} {d : Nat} {s : Nat} {u : Nat} {x1 : Int32} {x2 : Int32} {σ : Sg}  (q1 : x1 = nI s) (hs : s < 12) (q2 : x2 = nI u) (hv : u < 12) : Es l b cy D (d + 2) yX11_goTogether cX11_goTogether (Option.some Jvm.ClassFile.FieldType.boolean) 3 [.ref (b + 159), .int (x1), .int (x2)] σ (some (.int (bI (rX11_goTogether s u x1 x2 σ)))) (sX11_goTogether s u x1 x2 σ) := by
  refine Ev.of (by decide) (Nat.le_of_ble_eq_true rfl) rfl ?_
  refine g_aload_n (pc' := 1) dX11_goTogether_0 rfl 0 rfl rfl ?_
  refine g_iload_n (pc' := 2) dX11_goTogether_1 rfl 1 rfl rfl ?_
  refine g_callv (pc' := 5) dX11_goTogether_2 rfl mX11_207 (ev_X11_takesFrom (s := s) (x1 := x1) (σ := σ) q1 hs (d := d)) o159 rfl (rm_ok (by omega) (by decide)) ⟨rfl, rfl⟩ ⟨Nat.zero_le _, Nat.zero_le _⟩ rfl rfl (Nat.le_of_ble_eq_true rfl) ?_
  refine g_aload_n (pc' := 6) dX11_goTogether_5 rfl 0 rfl rfl ?_
  refine g_aload_n (pc' := 7) dX11_goTogether_6 rfl 0 rfl rfl ?_
  refine g_getR (pc' := 10) (a := 160) dX11_goTogether_7 rfl (PLk.lf fX11_7) o159 rfl ?_
  refine g_iconst (pc' := 11) (v := 1) dX11_goTogether_10 rfl (by decide) ?_
  refine g_iconst (pc' := 12) (v := 4) dX11_goTogether_11 rfl (by decide) ?_
  refine g_iload_n (pc' := 13) dX11_goTogether_12 rfl 2 rfl rfl ?_
  refine g_imul (pc' := 14) dX11_goTogether_13 rfl ?_
  refine g_iadd (pc' := 15) dX11_goTogether_14 rfl ?_
  refine g_iald (pc' := 16) (j := (1 + 4 * u)) dX11_goTogether_15 rfl o160 (by decide) (i14y (c := 1) q2) (by omega) ?_
  refine g_i2l (pc' := 17) dX11_goTogether_16 rfl ?_
  refine g_aload_n (pc' := 18) dX11_goTogether_17 rfl 0 rfl rfl ?_
  refine g_getR (pc' := 21) (a := 160) dX11_goTogether_18 rfl (PLk.lf fX11_7) o159 rfl ?_
  refine g_iconst (pc' := 22) (v := 2) dX11_goTogether_21 rfl (by decide) ?_
  refine g_iconst (pc' := 23) (v := 4) dX11_goTogether_22 rfl (by decide) ?_
  refine g_iload_n (pc' := 24) dX11_goTogether_23 rfl 2 rfl rfl ?_
  refine g_imul (pc' := 25) dX11_goTogether_24 rfl ?_
  refine g_iadd (pc' := 26) dX11_goTogether_25 rfl ?_
  refine g_iald (pc' := 27) (j := (2 + 4 * u)) dX11_goTogether_26 rfl o160 (by decide) (i14y (c := 2) q2) (by omega) ?_
  refine g_i2l (pc' := 28) dX11_goTogether_27 rfl ?_
  refine g_aload_n (pc' := 29) dX11_goTogether_28 rfl 0 rfl rfl ?_
  refine g_getR (pc' := 32) (a := 160) dX11_goTogether_29 rfl (PLk.lf fX11_7) o159 rfl ?_
  refine g_iconst (pc' := 33) (v := 3) dX11_goTogether_32 rfl (by decide) ?_
  refine g_iconst (pc' := 34) (v := 4) dX11_goTogether_33 rfl (by decide) ?_
  refine g_iload_n (pc' := 35) dX11_goTogether_34 rfl 2 rfl rfl ?_
  refine g_imul (pc' := 36) dX11_goTogether_35 rfl ?_
  refine g_iadd (pc' := 37) dX11_goTogether_36 rfl ?_
  refine g_iald (pc' := 38) (j := (3 + 4 * u)) dX11_goTogether_37 rfl o160 (by decide) (i14y (c := 3) q2) (by omega) ?_
  refine g_i2l (pc' := 39) dX11_goTogether_38 rfl ?_
  refine g_aload_n (pc' := 40) dX11_goTogether_39 rfl 0 rfl rfl ?_
  refine g_getR (pc' := 43) (a := 160) dX11_goTogether_40 rfl (PLk.lf fX11_7) o159 rfl ?_
  refine g_iconst (pc' := 44) (v := 4) dX11_goTogether_43 rfl (by decide) ?_
  refine g_iconst (pc' := 45) (v := 4) dX11_goTogether_44 rfl (by decide) ?_
  refine g_iload_n (pc' := 46) dX11_goTogether_45 rfl 2 rfl rfl ?_
  refine g_imul (pc' := 47) dX11_goTogether_46 rfl ?_
  refine g_iadd (pc' := 48) dX11_goTogether_47 rfl ?_
  refine g_iald (pc' := 49) (j := (4 + 4 * u)) dX11_goTogether_48 rfl o160 (by decide) (i14y (c := 4) q2) (by omega) ?_
  refine g_i2l (pc' := 50) dX11_goTogether_49 rfl ?_
  refine g_callv (pc' := 53) dX11_goTogether_50 rfl mX11_78 (ev_X11_multiplies (x1 := (((sX11_takesFrom s x1 σ).1) 160 (1 + 4 * u) : Int32).toInt64) (x2 := (((sX11_takesFrom s x1 σ).1) 160 (2 + 4 * u) : Int32).toInt64) (x3 := (((sX11_takesFrom s x1 σ).1) 160 (3 + 4 * u) : Int32).toInt64) (x4 := (((sX11_takesFrom s x1 σ).1) 160 (4 + 4 * u) : Int32).toInt64) (σ := sX11_takesFrom s x1 σ)  (d := d)) o159 rfl (rm_ok (by omega) (by decide)) ⟨rfl, rfl⟩ ⟨Nat.zero_le _, Nat.zero_le _⟩ rfl rfl (Nat.le_of_ble_eq_true rfl) ?_
  refine g_st (σ' := gt1 s u x1 x2 σ) rfl ?_
  refine g_aload_n (pc' := 54) dX11_goTogether_53 rfl 0 rfl rfl ?_
  refine g_getR (pc' := 57) (a := 170) dX11_goTogether_54 rfl (PLk.lf fX11_45) o159 rfl ?_
  refine g_iconst (pc' := 58) (v := 0) dX11_goTogether_57 rfl (by decide) ?_
  refine g_aload_n (pc' := 59) dX11_goTogether_58 rfl 0 rfl rfl ?_
  refine g_getL (pc' := 62) dX11_goTogether_59 rfl (PLk.lf fX11_57) o159 rfl ?_
  refine g_last (pc' := 63) (j := 0) dX11_goTogether_62 rfl (by decide) o170 (by decide) (by decide) (by decide) ?_
  refine g_aload_n (pc' := 64) dX11_goTogether_63 rfl 0 rfl rfl ?_
  refine g_getR (pc' := 67) (a := 170) dX11_goTogether_64 rfl (PLk.lf fX11_45) o159 rfl ?_
  refine g_iconst (pc' := 68) (v := 1) dX11_goTogether_67 rfl (by decide) ?_
  refine g_aload_n (pc' := 69) dX11_goTogether_68 rfl 0 rfl rfl ?_
  refine g_getL (pc' := 72) dX11_goTogether_69 rfl (PLk.lf fX11_61) o159 rfl ?_
  refine g_last (pc' := 73) (j := 1) dX11_goTogether_72 rfl (by decide) o170 (by decide) (by decide) (by decide) ?_
  refine g_aload_n (pc' := 74) dX11_goTogether_73 rfl 0 rfl rfl ?_
  refine g_getR (pc' := 77) (a := 170) dX11_goTogether_74 rfl (PLk.lf fX11_45) o159 rfl ?_
  refine g_iconst (pc' := 78) (v := 2) dX11_goTogether_77 rfl (by decide) ?_
  refine g_aload_n (pc' := 79) dX11_goTogether_78 rfl 0 rfl rfl ?_
  refine g_getL (pc' := 82) dX11_goTogether_79 rfl (PLk.lf fX11_64) o159 rfl ?_
  refine g_last (pc' := 83) (j := 2) dX11_goTogether_82 rfl (by decide) o170 (by decide) (by decide) (by decide) ?_
  refine g_aload_n (pc' := 84) dX11_goTogether_83 rfl 0 rfl rfl ?_
  refine g_getR (pc' := 87) (a := 170) dX11_goTogether_84 rfl (PLk.lf fX11_45) o159 rfl ?_
  refine g_iconst (pc' := 88) (v := 3) dX11_goTogether_87 rfl (by decide) ?_
  refine g_aload_n (pc' := 89) dX11_goTogether_88 rfl 0 rfl rfl ?_
  refine g_getL (pc' := 92) dX11_goTogether_89 rfl (PLk.lf fX11_67) o159 rfl ?_
  refine g_last (pc' := 93) (j := 3) dX11_goTogether_92 rfl (by decide) o170 (by decide) (by decide) (by decide) ?_
  refine g_st (σ' := gt2 s u x1 x2 σ) rfl ?_
  refine g_aload_n (pc' := 94) dX11_goTogether_93 rfl 0 rfl rfl ?_
  refine g_iload_n (pc' := 95) dX11_goTogether_94 rfl 2 rfl rfl ?_
  refine g_callv (pc' := 98) dX11_goTogether_95 rfl mX11_207 (ev_X11_takesFrom (s := u) (x1 := x2) (σ := gt2 s u x1 x2 σ) q2 hv (d := d)) o159 rfl (rm_ok (by omega) (by decide)) ⟨rfl, rfl⟩ ⟨Nat.zero_le _, Nat.zero_le _⟩ rfl rfl (Nat.le_of_ble_eq_true rfl) ?_
  refine g_aload_n (pc' := 99) dX11_goTogether_98 rfl 0 rfl rfl ?_
  refine g_aload_n (pc' := 100) dX11_goTogether_99 rfl 0 rfl rfl ?_
  refine g_getR (pc' := 103) (a := 160) dX11_goTogether_100 rfl (PLk.lf fX11_7) o159 rfl ?_
  refine g_iconst (pc' := 104) (v := 1) dX11_goTogether_103 rfl (by decide) ?_
  refine g_iconst (pc' := 105) (v := 4) dX11_goTogether_104 rfl (by decide) ?_
  refine g_iload_n (pc' := 106) dX11_goTogether_105 rfl 1 rfl rfl ?_
  refine g_imul (pc' := 107) dX11_goTogether_106 rfl ?_
  refine g_iadd (pc' := 108) dX11_goTogether_107 rfl ?_
  refine g_iald (pc' := 109) (j := (1 + 4 * s)) dX11_goTogether_108 rfl o160 (by decide) (i14y (c := 1) q1) (by omega) ?_
  refine g_i2l (pc' := 110) dX11_goTogether_109 rfl ?_
  refine g_aload_n (pc' := 111) dX11_goTogether_110 rfl 0 rfl rfl ?_
  refine g_getR (pc' := 114) (a := 160) dX11_goTogether_111 rfl (PLk.lf fX11_7) o159 rfl ?_
  refine g_iconst (pc' := 115) (v := 2) dX11_goTogether_114 rfl (by decide) ?_
  refine g_iconst (pc' := 116) (v := 4) dX11_goTogether_115 rfl (by decide) ?_
  refine g_iload_n (pc' := 117) dX11_goTogether_116 rfl 1 rfl rfl ?_
  refine g_imul (pc' := 118) dX11_goTogether_117 rfl ?_
  refine g_iadd (pc' := 119) dX11_goTogether_118 rfl ?_
  refine g_iald (pc' := 120) (j := (2 + 4 * s)) dX11_goTogether_119 rfl o160 (by decide) (i14y (c := 2) q1) (by omega) ?_
  refine g_i2l (pc' := 121) dX11_goTogether_120 rfl ?_
  refine g_aload_n (pc' := 122) dX11_goTogether_121 rfl 0 rfl rfl ?_
  refine g_getR (pc' := 125) (a := 160) dX11_goTogether_122 rfl (PLk.lf fX11_7) o159 rfl ?_
  refine g_iconst (pc' := 126) (v := 3) dX11_goTogether_125 rfl (by decide) ?_
  refine g_iconst (pc' := 127) (v := 4) dX11_goTogether_126 rfl (by decide) ?_
  refine g_iload_n (pc' := 128) dX11_goTogether_127 rfl 1 rfl rfl ?_
  refine g_imul (pc' := 129) dX11_goTogether_128 rfl ?_
  refine g_iadd (pc' := 130) dX11_goTogether_129 rfl ?_
  refine g_iald (pc' := 131) (j := (3 + 4 * s)) dX11_goTogether_130 rfl o160 (by decide) (i14y (c := 3) q1) (by omega) ?_
  refine g_i2l (pc' := 132) dX11_goTogether_131 rfl ?_
  refine g_aload_n (pc' := 133) dX11_goTogether_132 rfl 0 rfl rfl ?_
  refine g_getR (pc' := 136) (a := 160) dX11_goTogether_133 rfl (PLk.lf fX11_7) o159 rfl ?_
  refine g_iconst (pc' := 137) (v := 4) dX11_goTogether_136 rfl (by decide) ?_
  refine g_iconst (pc' := 138) (v := 4) dX11_goTogether_137 rfl (by decide) ?_
  refine g_iload_n (pc' := 139) dX11_goTogether_138 rfl 1 rfl rfl ?_
  refine g_imul (pc' := 140) dX11_goTogether_139 rfl ?_
  refine g_iadd (pc' := 141) dX11_goTogether_140 rfl ?_
  refine g_iald (pc' := 142) (j := (4 + 4 * s)) dX11_goTogether_141 rfl o160 (by decide) (i14y (c := 4) q1) (by omega) ?_
  refine g_i2l (pc' := 143) dX11_goTogether_142 rfl ?_
  refine g_callv (pc' := 146) dX11_goTogether_143 rfl mX11_78 (ev_X11_multiplies (x1 := (((sX11_takesFrom u x2 (gt2 s u x1 x2 σ)).1) 160 (1 + 4 * s) : Int32).toInt64) (x2 := (((sX11_takesFrom u x2 (gt2 s u x1 x2 σ)).1) 160 (2 + 4 * s) : Int32).toInt64) (x3 := (((sX11_takesFrom u x2 (gt2 s u x1 x2 σ)).1) 160 (3 + 4 * s) : Int32).toInt64) (x4 := (((sX11_takesFrom u x2 (gt2 s u x1 x2 σ)).1) 160 (4 + 4 * s) : Int32).toInt64) (σ := sX11_takesFrom u x2 (gt2 s u x1 x2 σ))  (d := d)) o159 rfl (rm_ok (by omega) (by decide)) ⟨rfl, rfl⟩ ⟨Nat.zero_le _, Nat.zero_le _⟩ rfl rfl (Nat.le_of_ble_eq_true rfl) ?_
  refine g_st (σ' := gt3 s u x1 x2 σ) rfl ?_
  refine g_aload_n (pc' := 147) dX11_goTogether_146 rfl 0 rfl rfl ?_
  refine g_getL (pc' := 150) dX11_goTogether_147 rfl (PLk.lf fX11_57) o159 rfl ?_
  refine g_aload_n (pc' := 151) dX11_goTogether_150 rfl 0 rfl rfl ?_
  refine g_getR (pc' := 154) (a := 170) dX11_goTogether_151 rfl (PLk.lf fX11_45) o159 rfl ?_
  refine g_iconst (pc' := 155) (v := 0) dX11_goTogether_154 rfl (by decide) ?_
  refine g_lald (pc' := 156) (j := 0) dX11_goTogether_155 rfl o170 (by decide) (by decide) (by decide) ?_
  refine g_lif_ne (pc' := 160) (tgt := 206) dX11_goTogether_156 dX11_goTogether_157 rfl (by decide) (fun (c1 : ¬ (((gt3 s u x1 x2 σ).2) 159 11 : Int64) = (((gt3 s u x1 x2 σ).2) 170 0)) => ?_) (fun (c1 : (((gt3 s u x1 x2 σ).2) 159 11 : Int64) = (((gt3 s u x1 x2 σ).2) 170 0)) => ?_)
  · refine g_iconst (pc' := 207) (v := 0) dX11_goTogether_206 rfl (by decide) ?_
    exact g_zret dX11_goTogether_207 rfl (Or.inl rfl) ⟨rfl, rfl⟩ (by simp only [rX11_goTogether, sX11_goTogether, if_neg c1, bI_t, bI_f])
  · refine g_aload_n (pc' := 161) dX11_goTogether_160 rfl 0 rfl rfl ?_
    refine g_getL (pc' := 164) dX11_goTogether_161 rfl (PLk.lf fX11_61) o159 rfl ?_
    refine g_aload_n (pc' := 165) dX11_goTogether_164 rfl 0 rfl rfl ?_
    refine g_getR (pc' := 168) (a := 170) dX11_goTogether_165 rfl (PLk.lf fX11_45) o159 rfl ?_
    refine g_iconst (pc' := 169) (v := 1) dX11_goTogether_168 rfl (by decide) ?_
    refine g_lald (pc' := 170) (j := 1) dX11_goTogether_169 rfl o170 (by decide) (by decide) (by decide) ?_
    refine g_lif_ne (pc' := 174) (tgt := 206) dX11_goTogether_170 dX11_goTogether_171 rfl (by decide) (fun (c2 : ¬ (((gt3 s u x1 x2 σ).2) 159 12 : Int64) = (((gt3 s u x1 x2 σ).2) 170 1)) => ?_) (fun (c2 : (((gt3 s u x1 x2 σ).2) 159 12 : Int64) = (((gt3 s u x1 x2 σ).2) 170 1)) => ?_)
    · refine g_iconst (pc' := 207) (v := 0) dX11_goTogether_206 rfl (by decide) ?_
      exact g_zret dX11_goTogether_207 rfl (Or.inl rfl) ⟨rfl, rfl⟩ (by simp only [rX11_goTogether, sX11_goTogether, if_pos c1, if_neg c2, bI_t, bI_f])
    · refine g_aload_n (pc' := 175) dX11_goTogether_174 rfl 0 rfl rfl ?_
      refine g_getL (pc' := 178) dX11_goTogether_175 rfl (PLk.lf fX11_64) o159 rfl ?_
      refine g_aload_n (pc' := 179) dX11_goTogether_178 rfl 0 rfl rfl ?_
      refine g_getR (pc' := 182) (a := 170) dX11_goTogether_179 rfl (PLk.lf fX11_45) o159 rfl ?_
      refine g_iconst (pc' := 183) (v := 2) dX11_goTogether_182 rfl (by decide) ?_
      refine g_lald (pc' := 184) (j := 2) dX11_goTogether_183 rfl o170 (by decide) (by decide) (by decide) ?_
      refine g_lif_ne (pc' := 188) (tgt := 206) dX11_goTogether_184 dX11_goTogether_185 rfl (by decide) (fun (c3 : ¬ (((gt3 s u x1 x2 σ).2) 159 13 : Int64) = (((gt3 s u x1 x2 σ).2) 170 2)) => ?_) (fun (c3 : (((gt3 s u x1 x2 σ).2) 159 13 : Int64) = (((gt3 s u x1 x2 σ).2) 170 2)) => ?_)
      · refine g_iconst (pc' := 207) (v := 0) dX11_goTogether_206 rfl (by decide) ?_
        exact g_zret dX11_goTogether_207 rfl (Or.inl rfl) ⟨rfl, rfl⟩ (by simp only [rX11_goTogether, sX11_goTogether, if_pos c1, if_pos c2, if_neg c3, bI_t, bI_f])
      · refine g_aload_n (pc' := 189) dX11_goTogether_188 rfl 0 rfl rfl ?_
        refine g_getL (pc' := 192) dX11_goTogether_189 rfl (PLk.lf fX11_67) o159 rfl ?_
        refine g_aload_n (pc' := 193) dX11_goTogether_192 rfl 0 rfl rfl ?_
        refine g_getR (pc' := 196) (a := 170) dX11_goTogether_193 rfl (PLk.lf fX11_45) o159 rfl ?_
        refine g_iconst (pc' := 197) (v := 3) dX11_goTogether_196 rfl (by decide) ?_
        refine g_lald (pc' := 198) (j := 3) dX11_goTogether_197 rfl o170 (by decide) (by decide) (by decide) ?_
        refine g_lif_ne (pc' := 202) (tgt := 206) dX11_goTogether_198 dX11_goTogether_199 rfl (by decide) (fun (c4 : ¬ (((gt3 s u x1 x2 σ).2) 159 14 : Int64) = (((gt3 s u x1 x2 σ).2) 170 3)) => ?_) (fun (c4 : (((gt3 s u x1 x2 σ).2) 159 14 : Int64) = (((gt3 s u x1 x2 σ).2) 170 3)) => ?_)
        · refine g_iconst (pc' := 207) (v := 0) dX11_goTogether_206 rfl (by decide) ?_
          exact g_zret dX11_goTogether_207 rfl (Or.inl rfl) ⟨rfl, rfl⟩ (by simp only [rX11_goTogether, sX11_goTogether, if_pos c1, if_pos c2, if_pos c3, if_neg c4, bI_t, bI_f])
        · refine g_iconst (pc' := 203) (v := 1) dX11_goTogether_202 rfl (by decide) ?_
          refine g_goto (tgt := 207) dX11_goTogether_203 (by decide) ?_
          exact g_zret dX11_goTogether_207 rfl (Or.inr rfl) ⟨rfl, rfl⟩ (by simp only [rX11_goTogether, sX11_goTogether, if_pos c1, if_pos c2, if_pos c3, if_pos c4, bI_t, bI_f])
def BeOk (σ : Sg) : Prop := σ.1 159 15 = 3 → ¬ σ.1 159 20 = 0 → ¬ σ.2 159 21 / (σ.1 159 20).toInt64 = 0
theorem t64 {x : Int32} (h : ¬ x = 0) : ¬ x.toInt64 = 0 := by
  intro z
  apply h
  rw [← Int32.toInt_inj, ← Int32.toInt_toInt64, z]
  rfl
def I6 (a j : Nat) : Bool := a == 166
def L6 (a j : Nat) : Bool := a == 159 && j == 22
theorem kq6_tu4 {t n : Nat} : ∀ (m k : Nat) (σ : Sg), Kq I6 L6 σ (tu4 t n m k σ)
  | 0, _, _ => Kq.rfl
  | m + 1, k, σ => (Kq.i (τ := σ) (a := 166) (j := k) (Eq.refl _) Kq.rfl).trans (kq6_tu4 m (k + 1) _)
theorem kq6_tuE {ah : Int64} {t n : Nat} {σ : Sg} : Kq I6 L6 σ (tuE ah t n σ) := (Kq.l (τ := σ) (a := 159) (j := 22) (Eq.refl _) Kq.rfl).trans (kq6_tu4 _ _ _)
theorem be_tuF {ah : Int64} {n : Nat} {σ : Sg} (h : TuH n σ) : ¬ (tuF ah n σ).2 159 21 / ((tuF ah n σ).1 159 20).toInt64 = 0 := by
  unfold tuF
  have k : Kq I6 L6 (tu2 n 32 0 0 (tu182 σ)).2 (tuE ah (tu2 n 32 0 0 (tu182 σ)).1 n (tu2 n 32 0 0 (tu182 σ)).2) := kq6_tuE
  rw [k.1 159 20 (Eq.refl _), k.2 159 21 (Eq.refl _)]
  exact h.2
theorem be_sTu {n : Nat} {σ : Sg} (h : TuOk n σ) : ¬ (sTu n σ).2 159 21 / ((sTu n σ).1 159 20).toInt64 = 0 := by
  unfold sTu
  exact be_tuF h.2.2.2
theorem kE_32 {σ : Sg} (c : σ.1 159 15 = 3) : (kE σ).2 = u2 (sTu (kn3 σ) (splT (caT (k3 σ)))).2 159 16 (σ.2 159 16) := by unfold kE; rw [if_pos c]
theorem be_kn {σ : Sg} (h : KnOk σ) : BeOk (sKn σ) := by
  rw [sKn_e]
  by_cases c : (kP σ).1 159 15 = 3
  · have t := h c
    intro _ _
    rw [kE_3 c, kE_32 c, u2_j (by decide)]
    exact be_sTu t.2.2.2.2.2
  · rw [kE_n c]
    exact fun z => absurd z c
theorem be_al {n s u : Nat} {x1 x2 : Int32} {σ : Sg} (hN : NowOk (σ.1 160) n) (hs : s < n) (hv : u < n) : BeOk (sX11_areAlike n s u x1 x2 σ) := be_kn (hN u hv (sX11_asides n s x1 σ) x2 (kq161 (kq_as (n := n) (hN s hs σ x1 rfl).1))).1
def rX11_beginsOf (n : Nat) (s : Nat) (u : Nat) (x1 : Int32) (x2 : Int32) (σ : Sg) : Int32 := if (rX11_areAlike n s u x1 x2 σ) = true then if (((sX11_areAlike n s u x1 x2 σ).1) 159 15 : Int32) = 3 then if (rX11_isProduct s x1 (sX11_areAlike n s u x1 x2 σ)) = true then if (rX11_isProduct u x2 (sX11_areAlike n s u x1 x2 σ)) = true then if (((sX11_areAlike n s u x1 x2 σ).1) 159 20 : Int32) = 0 then ((((((sX11_areAlike n s u x1 x2 σ).2) 159 22) - (((sX11_areAlike n s u x1 x2 σ).2) 159 31)) + 1) - (((((sX11_areAlike n s u x1 x2 σ).2) 159 22) - (((sX11_areAlike n s u x1 x2 σ).2) 159 31)) + 1) / 1 * 1 : Int64).toInt32 else ((((((sX11_areAlike n s u x1 x2 σ).2) 159 22) - (((sX11_areAlike n s u x1 x2 σ).2) 159 31)) + ((((sX11_areAlike n s u x1 x2 σ).2) 159 21) / ((((sX11_areAlike n s u x1 x2 σ).1) 159 20 : Int32).toInt64))) - (((((sX11_areAlike n s u x1 x2 σ).2) 159 22) - (((sX11_areAlike n s u x1 x2 σ).2) 159 31)) + ((((sX11_areAlike n s u x1 x2 σ).2) 159 21) / ((((sX11_areAlike n s u x1 x2 σ).1) 159 20 : Int32).toInt64))) / ((((sX11_areAlike n s u x1 x2 σ).2) 159 21) / ((((sX11_areAlike n s u x1 x2 σ).1) 159 20 : Int32).toInt64)) * ((((sX11_areAlike n s u x1 x2 σ).2) 159 21) / ((((sX11_areAlike n s u x1 x2 σ).1) 159 20 : Int32).toInt64)) : Int64).toInt32 else if (((sX11_areAlike n s u x1 x2 σ).1) 159 20 : Int32) = 0 then -1 else -1 else if (((sX11_areAlike n s u x1 x2 σ).1) 159 20 : Int32) = 0 then -1 else -1 else if (((sX11_areAlike n s u x1 x2 σ).1) 159 20 : Int32) = 0 then -1 else -1 else if (((sX11_areAlike n s u x1 x2 σ).1) 159 20 : Int32) = 0 then -1 else -1
def sX11_beginsOf (n : Nat) (s : Nat) (u : Nat) (x1 : Int32) (x2 : Int32) (σ : Sg) : Sg := if (rX11_areAlike n s u x1 x2 σ) = true then if (((sX11_areAlike n s u x1 x2 σ).1) 159 15 : Int32) = 3 then if (rX11_isProduct s x1 (sX11_areAlike n s u x1 x2 σ)) = true then if (rX11_isProduct u x2 (sX11_areAlike n s u x1 x2 σ)) = true then if (((sX11_areAlike n s u x1 x2 σ).1) 159 20 : Int32) = 0 then sX11_areAlike n s u x1 x2 σ else sX11_areAlike n s u x1 x2 σ else if (((sX11_areAlike n s u x1 x2 σ).1) 159 20 : Int32) = 0 then sX11_areAlike n s u x1 x2 σ else sX11_areAlike n s u x1 x2 σ else if (((sX11_areAlike n s u x1 x2 σ).1) 159 20 : Int32) = 0 then sX11_areAlike n s u x1 x2 σ else sX11_areAlike n s u x1 x2 σ else if (((sX11_areAlike n s u x1 x2 σ).1) 159 20 : Int32) = 0 then sX11_areAlike n s u x1 x2 σ else sX11_areAlike n s u x1 x2 σ else if (((sX11_areAlike n s u x1 x2 σ).1) 159 20 : Int32) = 0 then sX11_areAlike n s u x1 x2 σ else sX11_areAlike n s u x1 x2 σ
set_option maxRecDepth 100000 in
set_option maxHeartbeats 4000000 in
theorem ev_X11_beginsOf {l : Launch} {b : Nat} {cy : Nat → ClassId} {D : va_G} {d : Nat} {n : Nat} {s : Nat} {u : Nat} {x1 : Int32} {x2 : Int32} {σ : Sg}  (hN : NowOk (σ.1 160) n) (hn : n ≤ 12) (q1 : x1 = nI s) (hs : s < n) (q2 : x2 = nI u) (hv : u < n) : Es l b cy D (d + 6) yX11_beginsOf cX11_beginsOf (Option.some Jvm.ClassFile.FieldType.int) 6 [.ref (b + 159), .int (x1), .int (x2)] σ (some (.int (rX11_beginsOf n s u x1 x2 σ))) (sX11_beginsOf n s u x1 x2 σ) := by
  refine Ev.of (by decide) (Nat.le_of_ble_eq_true rfl) rfl ?_
  refine g_aload_n (pc' := 1) dX11_beginsOf_0 rfl 0 rfl rfl ?_
  refine g_iload_n (pc' := 2) dX11_beginsOf_1 rfl 1 rfl rfl ?_
  refine g_iload_n (pc' := 3) dX11_beginsOf_2 rfl 2 rfl rfl ?_
  refine g_callr (pc' := 6) dX11_beginsOf_3 rfl mX11_237 (ev_X11_areAlike (n := n) (s := s) (u := u) (x1 := x1) (x2 := x2) (σ := σ) hN hn q1 hs q2 hv (d := d)) o159 rfl (rm_ok (by omega) (by decide)) ⟨rfl, rfl⟩ ⟨Nat.zero_le _, Nat.zero_le _⟩ rfl rfl (Nat.le_of_ble_eq_true rfl) ?_
  refine g_ifb_eq (pc' := 9) (tgt := 37) dX11_beginsOf_6 rfl (by decide) (fun (c1 : (rX11_areAlike n s u x1 x2 σ) = false) => ?_) (fun (c1 : (rX11_areAlike n s u x1 x2 σ) = true) => ?_)
  · refine g_iconst (pc' := 38) (v := 0) dX11_beginsOf_37 rfl (by decide) ?_
    refine g_istore_n (pc' := 39) (j := 3) (lv' := [(3, .int (0)), (0, .ref (b + 159)), (1, .int (x1)), (2, .int (x2))]) dX11_beginsOf_38 rfl rfl (by decide) rfl ?_
    refine g_aload_n (pc' := 40) dX11_beginsOf_39 rfl 1 rfl rfl ?_
    refine g_getI (pc' := 43) dX11_beginsOf_40 rfl (PLk.lf fX11_146) o159 rfl ?_
    refine g_if_ne (pc' := 46) (tgt := 50) dX11_beginsOf_43 rfl (by decide) (fun (c2 : ¬ (((sX11_areAlike n s u x1 x2 σ).1) 159 20 : Int32) = 0) => ?_) (fun (c2 : (((sX11_areAlike n s u x1 x2 σ).1) 159 20 : Int32) = 0) => ?_)
    · refine g_aload_n (pc' := 51) dX11_beginsOf_50 rfl 1 rfl rfl ?_
      refine g_getL (pc' := 54) dX11_beginsOf_51 rfl (PLk.lf fX11_143) o159 rfl ?_
      refine g_aload_n (pc' := 55) dX11_beginsOf_54 rfl 1 rfl rfl ?_
      refine g_getI (pc' := 58) dX11_beginsOf_55 rfl (PLk.lf fX11_146) o159 rfl ?_
      refine g_i2l (pc' := 59) dX11_beginsOf_58 rfl ?_
      refine g_ldiv (pc' := 60) dX11_beginsOf_59 rfl (t64 c2) ?_
      refine g_lstore (pc' := 62) (j := 4) (lv' := [(4, .long ((((sX11_areAlike n s u x1 x2 σ).2) 159 21) / ((((sX11_areAlike n s u x1 x2 σ).1) 159 20 : Int32).toInt64))), (3, .int (0)), (0, .ref (b + 159)), (1, .int (x1)), (2, .int (x2))]) dX11_beginsOf_60 rfl (by decide) rfl ?_
      refine g_iload_n (pc' := 63) dX11_beginsOf_62 rfl 1 rfl rfl ?_
      refine g_if_eq (pc' := 66) (tgt := 85) dX11_beginsOf_63 rfl (by decide) (fun _ => ?_) (fun z => absurd z (by decide))
      refine g_iconst (pc' := 86) (v := -1) dX11_beginsOf_85 rfl (by decide) ?_
      exact g_iret dX11_beginsOf_86 rfl ⟨rfl, rfl⟩ (by simp only [rX11_beginsOf, sX11_beginsOf, if_neg (bf c1), if_neg c2, bI_t, bI_f])
    · refine g_lconst (pc' := 47) (v := 1) dX11_beginsOf_46 rfl (by decide) ?_
      refine g_goto (tgt := 60) dX11_beginsOf_47 (by decide) ?_
      refine g_lstore (pc' := 62) (j := 4) (lv' := [(4, .long (1)), (3, .int (0)), (0, .ref (b + 159)), (1, .int (x1)), (2, .int (x2))]) dX11_beginsOf_60 rfl (by decide) rfl ?_
      refine g_iload_n (pc' := 63) dX11_beginsOf_62 rfl 1 rfl rfl ?_
      refine g_if_eq (pc' := 66) (tgt := 85) dX11_beginsOf_63 rfl (by decide) (fun _ => ?_) (fun z => absurd z (by decide))
      refine g_iconst (pc' := 86) (v := -1) dX11_beginsOf_85 rfl (by decide) ?_
      exact g_iret dX11_beginsOf_86 rfl ⟨rfl, rfl⟩ (by simp only [rX11_beginsOf, sX11_beginsOf, if_neg (bf c1), if_pos c2, bI_t, bI_f])
  · refine g_aload_n (pc' := 10) dX11_beginsOf_9 rfl 0 rfl rfl ?_
    refine g_getI (pc' := 13) dX11_beginsOf_10 rfl (PLk.lf fX11_168) o159 rfl ?_
    refine g_iconst (pc' := 14) (v := 3) dX11_beginsOf_13 rfl (by decide) ?_
    refine g_icmp_ne (pc' := 17) (tgt := 37) dX11_beginsOf_14 rfl (by decide) (fun (c5 : ¬ (((sX11_areAlike n s u x1 x2 σ).1) 159 15 : Int32) = 3) => ?_) (fun (c5 : (((sX11_areAlike n s u x1 x2 σ).1) 159 15 : Int32) = 3) => ?_)
    · refine g_iconst (pc' := 38) (v := 0) dX11_beginsOf_37 rfl (by decide) ?_
      refine g_istore_n (pc' := 39) (j := 3) (lv' := [(3, .int (0)), (0, .ref (b + 159)), (1, .int (x1)), (2, .int (x2))]) dX11_beginsOf_38 rfl rfl (by decide) rfl ?_
      refine g_aload_n (pc' := 40) dX11_beginsOf_39 rfl 1 rfl rfl ?_
      refine g_getI (pc' := 43) dX11_beginsOf_40 rfl (PLk.lf fX11_146) o159 rfl ?_
      refine g_if_ne (pc' := 46) (tgt := 50) dX11_beginsOf_43 rfl (by decide) (fun (c6 : ¬ (((sX11_areAlike n s u x1 x2 σ).1) 159 20 : Int32) = 0) => ?_) (fun (c6 : (((sX11_areAlike n s u x1 x2 σ).1) 159 20 : Int32) = 0) => ?_)
      · refine g_aload_n (pc' := 51) dX11_beginsOf_50 rfl 1 rfl rfl ?_
        refine g_getL (pc' := 54) dX11_beginsOf_51 rfl (PLk.lf fX11_143) o159 rfl ?_
        refine g_aload_n (pc' := 55) dX11_beginsOf_54 rfl 1 rfl rfl ?_
        refine g_getI (pc' := 58) dX11_beginsOf_55 rfl (PLk.lf fX11_146) o159 rfl ?_
        refine g_i2l (pc' := 59) dX11_beginsOf_58 rfl ?_
        refine g_ldiv (pc' := 60) dX11_beginsOf_59 rfl (t64 c6) ?_
        refine g_lstore (pc' := 62) (j := 4) (lv' := [(4, .long ((((sX11_areAlike n s u x1 x2 σ).2) 159 21) / ((((sX11_areAlike n s u x1 x2 σ).1) 159 20 : Int32).toInt64))), (3, .int (0)), (0, .ref (b + 159)), (1, .int (x1)), (2, .int (x2))]) dX11_beginsOf_60 rfl (by decide) rfl ?_
        refine g_iload_n (pc' := 63) dX11_beginsOf_62 rfl 1 rfl rfl ?_
        refine g_if_eq (pc' := 66) (tgt := 85) dX11_beginsOf_63 rfl (by decide) (fun _ => ?_) (fun z => absurd z (by decide))
        refine g_iconst (pc' := 86) (v := -1) dX11_beginsOf_85 rfl (by decide) ?_
        exact g_iret dX11_beginsOf_86 rfl ⟨rfl, rfl⟩ (by simp only [rX11_beginsOf, sX11_beginsOf, if_pos c1, if_neg c5, if_neg c6, bI_t, bI_f])
      · refine g_lconst (pc' := 47) (v := 1) dX11_beginsOf_46 rfl (by decide) ?_
        refine g_goto (tgt := 60) dX11_beginsOf_47 (by decide) ?_
        refine g_lstore (pc' := 62) (j := 4) (lv' := [(4, .long (1)), (3, .int (0)), (0, .ref (b + 159)), (1, .int (x1)), (2, .int (x2))]) dX11_beginsOf_60 rfl (by decide) rfl ?_
        refine g_iload_n (pc' := 63) dX11_beginsOf_62 rfl 1 rfl rfl ?_
        refine g_if_eq (pc' := 66) (tgt := 85) dX11_beginsOf_63 rfl (by decide) (fun _ => ?_) (fun z => absurd z (by decide))
        refine g_iconst (pc' := 86) (v := -1) dX11_beginsOf_85 rfl (by decide) ?_
        exact g_iret dX11_beginsOf_86 rfl ⟨rfl, rfl⟩ (by simp only [rX11_beginsOf, sX11_beginsOf, if_pos c1, if_neg c5, if_pos c6, bI_t, bI_f])
    · refine g_aload_n (pc' := 18) dX11_beginsOf_17 rfl 0 rfl rfl ?_
      refine g_iload_n (pc' := 19) dX11_beginsOf_18 rfl 1 rfl rfl ?_
      refine g_callr (pc' := 22) dX11_beginsOf_19 rfl mX11_290 (ev_X11_isProduct (s := s) (x1 := x1) (σ := sX11_areAlike n s u x1 x2 σ) q1 (Nat.lt_of_lt_of_le hs hn) (d := d + 5)) o159 rfl (rm_ok (by omega) (by decide)) ⟨rfl, rfl⟩ ⟨Nat.zero_le _, Nat.zero_le _⟩ rfl rfl (Nat.le_of_ble_eq_true rfl) ?_
      refine g_ifb_eq (pc' := 25) (tgt := 37) dX11_beginsOf_22 rfl (by decide) (fun (c9 : (rX11_isProduct s x1 (sX11_areAlike n s u x1 x2 σ)) = false) => ?_) (fun (c9 : (rX11_isProduct s x1 (sX11_areAlike n s u x1 x2 σ)) = true) => ?_)
      · refine g_iconst (pc' := 38) (v := 0) dX11_beginsOf_37 rfl (by decide) ?_
        refine g_istore_n (pc' := 39) (j := 3) (lv' := [(3, .int (0)), (0, .ref (b + 159)), (1, .int (x1)), (2, .int (x2))]) dX11_beginsOf_38 rfl rfl (by decide) rfl ?_
        refine g_aload_n (pc' := 40) dX11_beginsOf_39 rfl 1 rfl rfl ?_
        refine g_getI (pc' := 43) dX11_beginsOf_40 rfl (PLk.lf fX11_146) o159 rfl ?_
        refine g_if_ne (pc' := 46) (tgt := 50) dX11_beginsOf_43 rfl (by decide) (fun (c10 : ¬ (((sX11_areAlike n s u x1 x2 σ).1) 159 20 : Int32) = 0) => ?_) (fun (c10 : (((sX11_areAlike n s u x1 x2 σ).1) 159 20 : Int32) = 0) => ?_)
        · refine g_aload_n (pc' := 51) dX11_beginsOf_50 rfl 1 rfl rfl ?_
          refine g_getL (pc' := 54) dX11_beginsOf_51 rfl (PLk.lf fX11_143) o159 rfl ?_
          refine g_aload_n (pc' := 55) dX11_beginsOf_54 rfl 1 rfl rfl ?_
          refine g_getI (pc' := 58) dX11_beginsOf_55 rfl (PLk.lf fX11_146) o159 rfl ?_
          refine g_i2l (pc' := 59) dX11_beginsOf_58 rfl ?_
          refine g_ldiv (pc' := 60) dX11_beginsOf_59 rfl (t64 c10) ?_
          refine g_lstore (pc' := 62) (j := 4) (lv' := [(4, .long ((((sX11_areAlike n s u x1 x2 σ).2) 159 21) / ((((sX11_areAlike n s u x1 x2 σ).1) 159 20 : Int32).toInt64))), (3, .int (0)), (0, .ref (b + 159)), (1, .int (x1)), (2, .int (x2))]) dX11_beginsOf_60 rfl (by decide) rfl ?_
          refine g_iload_n (pc' := 63) dX11_beginsOf_62 rfl 1 rfl rfl ?_
          refine g_if_eq (pc' := 66) (tgt := 85) dX11_beginsOf_63 rfl (by decide) (fun _ => ?_) (fun z => absurd z (by decide))
          refine g_iconst (pc' := 86) (v := -1) dX11_beginsOf_85 rfl (by decide) ?_
          exact g_iret dX11_beginsOf_86 rfl ⟨rfl, rfl⟩ (by simp only [rX11_beginsOf, sX11_beginsOf, if_pos c1, if_pos c5, if_neg (bf c9), if_neg c10, bI_t, bI_f])
        · refine g_lconst (pc' := 47) (v := 1) dX11_beginsOf_46 rfl (by decide) ?_
          refine g_goto (tgt := 60) dX11_beginsOf_47 (by decide) ?_
          refine g_lstore (pc' := 62) (j := 4) (lv' := [(4, .long (1)), (3, .int (0)), (0, .ref (b + 159)), (1, .int (x1)), (2, .int (x2))]) dX11_beginsOf_60 rfl (by decide) rfl ?_
          refine g_iload_n (pc' := 63) dX11_beginsOf_62 rfl 1 rfl rfl ?_
          refine g_if_eq (pc' := 66) (tgt := 85) dX11_beginsOf_63 rfl (by decide) (fun _ => ?_) (fun z => absurd z (by decide))
          refine g_iconst (pc' := 86) (v := -1) dX11_beginsOf_85 rfl (by decide) ?_
          exact g_iret dX11_beginsOf_86 rfl ⟨rfl, rfl⟩ (by simp only [rX11_beginsOf, sX11_beginsOf, if_pos c1, if_pos c5, if_neg (bf c9), if_pos c10, bI_t, bI_f])
      · refine g_aload_n (pc' := 26) dX11_beginsOf_25 rfl 0 rfl rfl ?_
        refine g_iload_n (pc' := 27) dX11_beginsOf_26 rfl 2 rfl rfl ?_
        refine g_callr (pc' := 30) dX11_beginsOf_27 rfl mX11_290 (ev_X11_isProduct (s := u) (x1 := x2) (σ := sX11_areAlike n s u x1 x2 σ) q2 (Nat.lt_of_lt_of_le hv hn) (d := d + 5)) o159 rfl (rm_ok (by omega) (by decide)) ⟨rfl, rfl⟩ ⟨Nat.zero_le _, Nat.zero_le _⟩ rfl rfl (Nat.le_of_ble_eq_true rfl) ?_
        refine g_ifb_eq (pc' := 33) (tgt := 37) dX11_beginsOf_30 rfl (by decide) (fun (c13 : (rX11_isProduct u x2 (sX11_areAlike n s u x1 x2 σ)) = false) => ?_) (fun (c13 : (rX11_isProduct u x2 (sX11_areAlike n s u x1 x2 σ)) = true) => ?_)
        · refine g_iconst (pc' := 38) (v := 0) dX11_beginsOf_37 rfl (by decide) ?_
          refine g_istore_n (pc' := 39) (j := 3) (lv' := [(3, .int (0)), (0, .ref (b + 159)), (1, .int (x1)), (2, .int (x2))]) dX11_beginsOf_38 rfl rfl (by decide) rfl ?_
          refine g_aload_n (pc' := 40) dX11_beginsOf_39 rfl 1 rfl rfl ?_
          refine g_getI (pc' := 43) dX11_beginsOf_40 rfl (PLk.lf fX11_146) o159 rfl ?_
          refine g_if_ne (pc' := 46) (tgt := 50) dX11_beginsOf_43 rfl (by decide) (fun (c14 : ¬ (((sX11_areAlike n s u x1 x2 σ).1) 159 20 : Int32) = 0) => ?_) (fun (c14 : (((sX11_areAlike n s u x1 x2 σ).1) 159 20 : Int32) = 0) => ?_)
          · refine g_aload_n (pc' := 51) dX11_beginsOf_50 rfl 1 rfl rfl ?_
            refine g_getL (pc' := 54) dX11_beginsOf_51 rfl (PLk.lf fX11_143) o159 rfl ?_
            refine g_aload_n (pc' := 55) dX11_beginsOf_54 rfl 1 rfl rfl ?_
            refine g_getI (pc' := 58) dX11_beginsOf_55 rfl (PLk.lf fX11_146) o159 rfl ?_
            refine g_i2l (pc' := 59) dX11_beginsOf_58 rfl ?_
            refine g_ldiv (pc' := 60) dX11_beginsOf_59 rfl (t64 c14) ?_
            refine g_lstore (pc' := 62) (j := 4) (lv' := [(4, .long ((((sX11_areAlike n s u x1 x2 σ).2) 159 21) / ((((sX11_areAlike n s u x1 x2 σ).1) 159 20 : Int32).toInt64))), (3, .int (0)), (0, .ref (b + 159)), (1, .int (x1)), (2, .int (x2))]) dX11_beginsOf_60 rfl (by decide) rfl ?_
            refine g_iload_n (pc' := 63) dX11_beginsOf_62 rfl 1 rfl rfl ?_
            refine g_if_eq (pc' := 66) (tgt := 85) dX11_beginsOf_63 rfl (by decide) (fun _ => ?_) (fun z => absurd z (by decide))
            refine g_iconst (pc' := 86) (v := -1) dX11_beginsOf_85 rfl (by decide) ?_
            exact g_iret dX11_beginsOf_86 rfl ⟨rfl, rfl⟩ (by simp only [rX11_beginsOf, sX11_beginsOf, if_pos c1, if_pos c5, if_pos c9, if_neg (bf c13), if_neg c14, bI_t, bI_f])
          · refine g_lconst (pc' := 47) (v := 1) dX11_beginsOf_46 rfl (by decide) ?_
            refine g_goto (tgt := 60) dX11_beginsOf_47 (by decide) ?_
            refine g_lstore (pc' := 62) (j := 4) (lv' := [(4, .long (1)), (3, .int (0)), (0, .ref (b + 159)), (1, .int (x1)), (2, .int (x2))]) dX11_beginsOf_60 rfl (by decide) rfl ?_
            refine g_iload_n (pc' := 63) dX11_beginsOf_62 rfl 1 rfl rfl ?_
            refine g_if_eq (pc' := 66) (tgt := 85) dX11_beginsOf_63 rfl (by decide) (fun _ => ?_) (fun z => absurd z (by decide))
            refine g_iconst (pc' := 86) (v := -1) dX11_beginsOf_85 rfl (by decide) ?_
            exact g_iret dX11_beginsOf_86 rfl ⟨rfl, rfl⟩ (by simp only [rX11_beginsOf, sX11_beginsOf, if_pos c1, if_pos c5, if_pos c9, if_neg (bf c13), if_pos c14, bI_t, bI_f])
        · refine g_iconst (pc' := 34) (v := 1) dX11_beginsOf_33 rfl (by decide) ?_
          refine g_goto (tgt := 38) dX11_beginsOf_34 (by decide) ?_
          refine g_istore_n (pc' := 39) (j := 3) (lv' := [(3, .int (1)), (0, .ref (b + 159)), (1, .int (x1)), (2, .int (x2))]) dX11_beginsOf_38 rfl rfl (by decide) rfl ?_
          refine g_aload_n (pc' := 40) dX11_beginsOf_39 rfl 1 rfl rfl ?_
          refine g_getI (pc' := 43) dX11_beginsOf_40 rfl (PLk.lf fX11_146) o159 rfl ?_
          refine g_if_ne (pc' := 46) (tgt := 50) dX11_beginsOf_43 rfl (by decide) (fun (c17 : ¬ (((sX11_areAlike n s u x1 x2 σ).1) 159 20 : Int32) = 0) => ?_) (fun (c17 : (((sX11_areAlike n s u x1 x2 σ).1) 159 20 : Int32) = 0) => ?_)
          · refine g_aload_n (pc' := 51) dX11_beginsOf_50 rfl 1 rfl rfl ?_
            refine g_getL (pc' := 54) dX11_beginsOf_51 rfl (PLk.lf fX11_143) o159 rfl ?_
            refine g_aload_n (pc' := 55) dX11_beginsOf_54 rfl 1 rfl rfl ?_
            refine g_getI (pc' := 58) dX11_beginsOf_55 rfl (PLk.lf fX11_146) o159 rfl ?_
            refine g_i2l (pc' := 59) dX11_beginsOf_58 rfl ?_
            refine g_ldiv (pc' := 60) dX11_beginsOf_59 rfl (t64 c17) ?_
            refine g_lstore (pc' := 62) (j := 4) (lv' := [(4, .long ((((sX11_areAlike n s u x1 x2 σ).2) 159 21) / ((((sX11_areAlike n s u x1 x2 σ).1) 159 20 : Int32).toInt64))), (3, .int (1)), (0, .ref (b + 159)), (1, .int (x1)), (2, .int (x2))]) dX11_beginsOf_60 rfl (by decide) rfl ?_
            refine g_iload_n (pc' := 63) dX11_beginsOf_62 rfl 1 rfl rfl ?_
            refine g_if_eq (pc' := 66) (tgt := 85) dX11_beginsOf_63 rfl (by decide) (fun z => absurd z (by decide)) (fun _ => ?_)
            refine g_aload_n (pc' := 67) dX11_beginsOf_66 rfl 2 rfl rfl ?_
            refine g_getL (pc' := 70) dX11_beginsOf_67 rfl (PLk.lf fX11_157) o159 rfl ?_
            refine g_aload_n (pc' := 71) dX11_beginsOf_70 rfl 2 rfl rfl ?_
            refine g_getL (pc' := 74) dX11_beginsOf_71 rfl (PLk.lf fX11_204) o159 rfl ?_
            refine g_lsub (pc' := 75) dX11_beginsOf_74 rfl ?_
            refine g_lload (pc' := 77) dX11_beginsOf_75 rfl 0 rfl ?_
            refine g_ladd (pc' := 78) dX11_beginsOf_77 rfl ?_
            refine g_lload (pc' := 80) dX11_beginsOf_78 rfl 0 rfl ?_
            refine g_lrem (pc' := 81) dX11_beginsOf_80 rfl (be_al hN hs hv c5 c17) ?_
            refine g_l2i (pc' := 82) dX11_beginsOf_81 rfl ?_
            refine g_goto (tgt := 86) dX11_beginsOf_82 (by decide) ?_
            exact g_iret dX11_beginsOf_86 rfl ⟨rfl, rfl⟩ (by simp only [rX11_beginsOf, sX11_beginsOf, if_pos c1, if_pos c5, if_pos c9, if_pos c13, if_neg c17, bI_t, bI_f])
          · refine g_lconst (pc' := 47) (v := 1) dX11_beginsOf_46 rfl (by decide) ?_
            refine g_goto (tgt := 60) dX11_beginsOf_47 (by decide) ?_
            refine g_lstore (pc' := 62) (j := 4) (lv' := [(4, .long (1)), (3, .int (1)), (0, .ref (b + 159)), (1, .int (x1)), (2, .int (x2))]) dX11_beginsOf_60 rfl (by decide) rfl ?_
            refine g_iload_n (pc' := 63) dX11_beginsOf_62 rfl 1 rfl rfl ?_
            refine g_if_eq (pc' := 66) (tgt := 85) dX11_beginsOf_63 rfl (by decide) (fun z => absurd z (by decide)) (fun _ => ?_)
            refine g_aload_n (pc' := 67) dX11_beginsOf_66 rfl 2 rfl rfl ?_
            refine g_getL (pc' := 70) dX11_beginsOf_67 rfl (PLk.lf fX11_157) o159 rfl ?_
            refine g_aload_n (pc' := 71) dX11_beginsOf_70 rfl 2 rfl rfl ?_
            refine g_getL (pc' := 74) dX11_beginsOf_71 rfl (PLk.lf fX11_204) o159 rfl ?_
            refine g_lsub (pc' := 75) dX11_beginsOf_74 rfl ?_
            refine g_lload (pc' := 77) dX11_beginsOf_75 rfl 0 rfl ?_
            refine g_ladd (pc' := 78) dX11_beginsOf_77 rfl ?_
            refine g_lload (pc' := 80) dX11_beginsOf_78 rfl 0 rfl ?_
            refine g_lrem (pc' := 81) dX11_beginsOf_80 rfl (by decide) ?_
            refine g_l2i (pc' := 82) dX11_beginsOf_81 rfl ?_
            refine g_goto (tgt := 86) dX11_beginsOf_82 (by decide) ?_
            exact g_iret dX11_beginsOf_86 rfl ⟨rfl, rfl⟩ (by simp only [rX11_beginsOf, sX11_beginsOf, if_pos c1, if_pos c5, if_pos c9, if_pos c13, if_pos c17, bI_t, bI_f])
end
