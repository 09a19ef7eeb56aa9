def splD (σ : Sg) : Bool := if σ.2 159 11 = 1 then (if σ.2 159 12 = 0 then (if σ.2 159 13 = 0 then true else false) else false) else false
def splRt (σ : Sg) : Bool := if σ.2 159 11 < σ.2 159 13 then false else (if σ.2 159 12 < σ.2 159 14 then false else true)
def nR (σ : Sg) : Int64 := if σ.2 159 13 = 0 then σ.2 159 12 / σ.2 159 14 else (if σ.2 159 14 = 0 then σ.2 159 11 / σ.2 159 13 else (if σ.2 159 11 / σ.2 159 13 < σ.2 159 12 / σ.2 159 14 then σ.2 159 11 / σ.2 159 13 else σ.2 159 12 / σ.2 159 14))
def nL (σ : Sg) : Int64 := if σ.2 159 11 = 0 then σ.2 159 14 / σ.2 159 12 else (if σ.2 159 12 = 0 then σ.2 159 13 / σ.2 159 11 else (if σ.2 159 13 / σ.2 159 11 < σ.2 159 14 / σ.2 159 12 then σ.2 159 13 / σ.2 159 11 else σ.2 159 14 / σ.2 159 12))
def spE (f : Int32) (n : Int64) (σ τ : Sg) : Sg := (u2 (u2 (u2 τ.1 166 (σ.1 159 19).toNatClampNeg n.toInt32) 167 (σ.1 159 19).toNatClampNeg f) 159 19 (u2 (u2 τ.1 166 (σ.1 159 19).toNatClampNeg n.toInt32) 167 (σ.1 159 19).toNatClampNeg f 159 19 + 1), τ.2)
def spR (n : Int64) (σ : Sg) : Sg := spE 0 n σ (sX11_takes (σ.2 159 11 - n * σ.2 159 13) (σ.2 159 12 - n * σ.2 159 14) (σ.2 159 13) (σ.2 159 14) σ)
def spL (n : Int64) (σ : Sg) : Sg := spE 1 n σ (sX11_takes (σ.2 159 11) (σ.2 159 12) (σ.2 159 13 - n * σ.2 159 11) (σ.2 159 14 - n * σ.2 159 12) σ)
def SpG (σ : Sg) : Prop := (¬ σ.1 159 19 < 0 ∧ (σ.1 159 19).toNatClampNeg < 64) ∧ (splRt σ = true → σ.2 159 13 = 0 → ¬ σ.2 159 14 = 0) ∧ (splRt σ = false → σ.2 159 11 = 0 → ¬ σ.2 159 12 = 0)
def splS (σ : Sg) : Sg := if splRt σ = true then spR (nR σ) σ else spL (nL σ) σ
set_option maxRecDepth 100000 in
set_option maxHeartbeats 4000000 in
theorem sg_R {l : Launch} {b : Nat} {cy : Nat → ClassId} {D : va_G} {d : Nat} {σ τ : Sg} {n : Int64} (g : ¬ σ.1 159 19 < 0 ∧ (σ.1 159 19).toNatClampNeg < 64) (k5 : Gs l b cy D (d + 1) yX11_spells cX11_spells (Option.none : Option Jvm.ClassFile.FieldType) 4 none τ 5 [(0, .ref (b + 159))] [] (spR n σ)) : Gs l b cy D (d + 1) yX11_spells cX11_spells (Option.none : Option Jvm.ClassFile.FieldType) 4 none τ 152 [(0, .ref (b + 159)), (1, .int (1)), (2, .long (n))] [] σ := by
  refine g_aload_n (pc' := 153) dX11_spells_152 rfl 0 rfl rfl ?_
  refine g_aload_n (pc' := 154) dX11_spells_153 rfl 0 rfl rfl ?_
  refine g_getL (pc' := 157) dX11_spells_154 rfl (PLk.lf fX11_57) o159 rfl ?_
  refine g_lload_n (pc' := 158) dX11_spells_157 rfl 2 rfl rfl ?_
  refine g_aload_n (pc' := 159) dX11_spells_158 rfl 0 rfl rfl ?_
  refine g_getL (pc' := 162) dX11_spells_159 rfl (PLk.lf fX11_64) o159 rfl ?_
  refine g_lmul (pc' := 163) dX11_spells_162 rfl ?_
  refine g_lsub (pc' := 164) dX11_spells_163 rfl ?_
  refine g_aload_n (pc' := 165) dX11_spells_164 rfl 0 rfl rfl ?_
  refine g_getL (pc' := 168) dX11_spells_165 rfl (PLk.lf fX11_61) o159 rfl ?_
  refine g_lload_n (pc' := 169) dX11_spells_168 rfl 2 rfl rfl ?_
  refine g_aload_n (pc' := 170) dX11_spells_169 rfl 0 rfl rfl ?_
  refine g_getL (pc' := 173) dX11_spells_170 rfl (PLk.lf fX11_67) o159 rfl ?_
  refine g_lmul (pc' := 174) dX11_spells_173 rfl ?_
  refine g_lsub (pc' := 175) dX11_spells_174 rfl ?_
  refine g_aload_n (pc' := 176) dX11_spells_175 rfl 0 rfl rfl ?_
  refine g_getL (pc' := 179) dX11_spells_176 rfl (PLk.lf fX11_64) o159 rfl ?_
  refine g_aload_n (pc' := 180) dX11_spells_179 rfl 0 rfl rfl ?_
  refine g_getL (pc' := 183) dX11_spells_180 rfl (PLk.lf fX11_67) o159 rfl ?_
  refine g_callv (pc' := 186) dX11_spells_183 rfl mX11_70 (ev_X11_takes (x1 := (σ.2 159 11) - (n * (σ.2 159 13))) (x2 := (σ.2 159 12) - (n * (σ.2 159 14))) (x3 := σ.2 159 13) (x4 := σ.2 159 14) (σ := σ)  (d := d)) o159 rfl (rm_ok (by omega) (by decide)) ⟨rfl, rfl⟩ ⟨Nat.zero_le _, Nat.zero_le _⟩ rfl rfl (Nat.le_of_ble_eq_true rfl) ?_
  refine g_goto (tgt := 309) dX11_spells_186 (by decide) ?_
  refine g_aload_n (pc' := 310) dX11_spells_309 rfl 0 rfl rfl ?_
  refine g_getR (pc' := 313) (a := 166) dX11_spells_310 rfl (PLk.lf fX11_33) o159 rfl ?_
  refine g_aload_n (pc' := 314) dX11_spells_313 rfl 0 rfl rfl ?_
  refine g_getI (pc' := 317) dX11_spells_314 rfl (PLk.lf fX11_140) o159 rfl ?_
  refine g_lload_n (pc' := 318) dX11_spells_317 rfl 2 rfl rfl ?_
  refine g_l2i (pc' := 319) dX11_spells_318 rfl ?_
  refine g_iast (pc' := 320) (j := (σ.1 159 19).toNatClampNeg) dX11_spells_319 rfl (by decide) o166 (by decide) (nI_self g.1) g.2 ?_
  refine g_aload_n (pc' := 321) dX11_spells_320 rfl 0 rfl rfl ?_
  refine g_getR (pc' := 324) (a := 167) dX11_spells_321 rfl (PLk.lf fX11_36) o159 rfl ?_
  refine g_aload_n (pc' := 325) dX11_spells_324 rfl 0 rfl rfl ?_
  refine g_getI (pc' := 328) dX11_spells_325 rfl (PLk.lf fX11_140) o159 rfl ?_
  refine g_iload_n (pc' := 329) dX11_spells_328 rfl 1 rfl rfl ?_
  refine g_if_eq (pc' := 332) (tgt := 336) dX11_spells_329 rfl (by decide) (fun z => absurd z (by decide)) (fun _ => ?_)
  refine g_iconst (pc' := 333) (v := 0) dX11_spells_332 rfl (by decide) ?_
  refine g_goto (tgt := 337) dX11_spells_333 (by decide) ?_
  refine g_iast (pc' := 338) (j := (σ.1 159 19).toNatClampNeg) dX11_spells_337 rfl (by decide) o167 (by decide) (by dsimp only; rw [u2_k (by decide)]; exact nI_self g.1) g.2 ?_
  refine g_aload_n (pc' := 339) dX11_spells_338 rfl 0 rfl rfl ?_
  refine g_dup (pc' := 340) dX11_spells_339 rfl rfl ?_
  refine g_getI (pc' := 343) dX11_spells_340 rfl (PLk.lf fX11_140) o159 rfl ?_
  refine g_iconst (pc' := 344) (v := 1) dX11_spells_343 rfl (by decide) ?_
  refine g_iadd (pc' := 345) dX11_spells_344 rfl ?_
  refine g_putI (pc' := 348) dX11_spells_345 rfl fX11_140 o159 rfl ?_
  refine g_goto (tgt := 5) dX11_spells_348 (by decide) ?_
  refine g_sub [0] rfl ?_
  exact k5
set_option maxRecDepth 100000 in
set_option maxHeartbeats 4000000 in
theorem sg_L {l : Launch} {b : Nat} {cy : Nat → ClassId} {D : va_G} {d : Nat} {σ τ : Sg} {n : Int64} (g : ¬ σ.1 159 19 < 0 ∧ (σ.1 159 19).toNatClampNeg < 64) (k5 : Gs l b cy D (d + 1) yX11_spells cX11_spells (Option.none : Option Jvm.ClassFile.FieldType) 4 none τ 5 [(0, .ref (b + 159))] [] (spL n σ)) : Gs l b cy D (d + 1) yX11_spells cX11_spells (Option.none : Option Jvm.ClassFile.FieldType) 4 none τ 275 [(0, .ref (b + 159)), (1, .int (0)), (2, .long (n))] [] σ := by
  refine g_aload_n (pc' := 276) dX11_spells_275 rfl 0 rfl rfl ?_
  refine g_aload_n (pc' := 277) dX11_spells_276 rfl 0 rfl rfl ?_
  refine g_getL (pc' := 280) dX11_spells_277 rfl (PLk.lf fX11_57) o159 rfl ?_
  refine g_aload_n (pc' := 281) dX11_spells_280 rfl 0 rfl rfl ?_
  refine g_getL (pc' := 284) dX11_spells_281 rfl (PLk.lf fX11_61) o159 rfl ?_
  refine g_aload_n (pc' := 285) dX11_spells_284 rfl 0 rfl rfl ?_
  refine g_getL (pc' := 288) dX11_spells_285 rfl (PLk.lf fX11_64) o159 rfl ?_
  refine g_lload_n (pc' := 289) dX11_spells_288 rfl 2 rfl rfl ?_
  refine g_aload_n (pc' := 290) dX11_spells_289 rfl 0 rfl rfl ?_
  refine g_getL (pc' := 293) dX11_spells_290 rfl (PLk.lf fX11_57) o159 rfl ?_
  refine g_lmul (pc' := 294) dX11_spells_293 rfl ?_
  refine g_lsub (pc' := 295) dX11_spells_294 rfl ?_
  refine g_aload_n (pc' := 296) dX11_spells_295 rfl 0 rfl rfl ?_
  refine g_getL (pc' := 299) dX11_spells_296 rfl (PLk.lf fX11_67) o159 rfl ?_
  refine g_lload_n (pc' := 300) dX11_spells_299 rfl 2 rfl rfl ?_
  refine g_aload_n (pc' := 301) dX11_spells_300 rfl 0 rfl rfl ?_
  refine g_getL (pc' := 304) dX11_spells_301 rfl (PLk.lf fX11_61) o159 rfl ?_
  refine g_lmul (pc' := 305) dX11_spells_304 rfl ?_
  refine g_lsub (pc' := 306) dX11_spells_305 rfl ?_
  refine g_callv (pc' := 309) dX11_spells_306 rfl mX11_70 (ev_X11_takes (x1 := σ.2 159 11) (x2 := σ.2 159 12) (x3 := (σ.2 159 13) - (n * (σ.2 159 11))) (x4 := (σ.2 159 14) - (n * (σ.2 159 12))) (σ := σ)  (d := d)) o159 rfl (rm_ok (by omega) (by decide)) ⟨rfl, rfl⟩ ⟨Nat.zero_le _, Nat.zero_le _⟩ rfl rfl (Nat.le_of_ble_eq_true rfl) ?_
  refine g_aload_n (pc' := 310) dX11_spells_309 rfl 0 rfl rfl ?_
  refine g_getR (pc' := 313) (a := 166) dX11_spells_310 rfl (PLk.lf fX11_33) o159 rfl ?_
  refine g_aload_n (pc' := 314) dX11_spells_313 rfl 0 rfl rfl ?_
  refine g_getI (pc' := 317) dX11_spells_314 rfl (PLk.lf fX11_140) o159 rfl ?_
  refine g_lload_n (pc' := 318) dX11_spells_317 rfl 2 rfl rfl ?_
  refine g_l2i (pc' := 319) dX11_spells_318 rfl ?_
  refine g_iast (pc' := 320) (j := (σ.1 159 19).toNatClampNeg) dX11_spells_319 rfl (by decide) o166 (by decide) (nI_self g.1) g.2 ?_
  refine g_aload_n (pc' := 321) dX11_spells_320 rfl 0 rfl rfl ?_
  refine g_getR (pc' := 324) (a := 167) dX11_spells_321 rfl (PLk.lf fX11_36) o159 rfl ?_
  refine g_aload_n (pc' := 325) dX11_spells_324 rfl 0 rfl rfl ?_
  refine g_getI (pc' := 328) dX11_spells_325 rfl (PLk.lf fX11_140) o159 rfl ?_
  refine g_iload_n (pc' := 329) dX11_spells_328 rfl 1 rfl rfl ?_
  refine g_if_eq (pc' := 332) (tgt := 336) dX11_spells_329 rfl (by decide) (fun _ => ?_) (fun z => absurd z (by decide))
  refine g_iconst (pc' := 337) (v := 1) dX11_spells_336 rfl (by decide) ?_
  refine g_iast (pc' := 338) (j := (σ.1 159 19).toNatClampNeg) dX11_spells_337 rfl (by decide) o167 (by decide) (by dsimp only; rw [u2_k (by decide)]; exact nI_self g.1) g.2 ?_
  refine g_aload_n (pc' := 339) dX11_spells_338 rfl 0 rfl rfl ?_
  refine g_dup (pc' := 340) dX11_spells_339 rfl rfl ?_
  refine g_getI (pc' := 343) dX11_spells_340 rfl (PLk.lf fX11_140) o159 rfl ?_
  refine g_iconst (pc' := 344) (v := 1) dX11_spells_343 rfl (by decide) ?_
  refine g_iadd (pc' := 345) dX11_spells_344 rfl ?_
  refine g_putI (pc' := 348) dX11_spells_345 rfl fX11_140 o159 rfl ?_
  refine g_goto (tgt := 5) dX11_spells_348 (by decide) ?_
  refine g_sub [0] rfl ?_
  exact k5
set_option maxRecDepth 100000 in
set_option maxHeartbeats 4000000 in
theorem sg_r {l : Launch} {b : Nat} {cy : Nat → ClassId} {D : va_G} {d : Nat} {σ τ : Sg}  (g : ¬ σ.1 159 19 < 0 ∧ (σ.1 159 19).toNatClampNeg < 64) (gd : σ.2 159 13 = 0 → ¬ σ.2 159 14 = 0) (k5 : Gs l b cy D (d + 1) yX11_spells cX11_spells (Option.none : Option Jvm.ClassFile.FieldType) 4 none τ 5 [(0, .ref (b + 159))] [] (spR (nR σ) σ)) : Gs l b cy D (d + 1) yX11_spells cX11_spells (Option.none : Option Jvm.ClassFile.FieldType) 4 none τ 66 [(0, .ref (b + 159)), (1, .int (1))] [] σ := by
  refine g_aload_n (pc' := 67) dX11_spells_66 rfl 0 rfl rfl ?_
  refine g_getL (pc' := 70) dX11_spells_67 rfl (PLk.lf fX11_64) o159 rfl ?_
  refine g_lconst (pc' := 71) (v := 0) dX11_spells_70 rfl (by decide) ?_
  refine g_lif_ne (pc' := 75) (tgt := 87) dX11_spells_71 dX11_spells_72 rfl (by decide) (fun (c1 : ¬ (σ.2 159 13 : Int64) = 0) => ?_) (fun (c1 : (σ.2 159 13 : Int64) = 0) => ?_)
  · refine g_aload_n (pc' := 88) dX11_spells_87 rfl 0 rfl rfl ?_
    refine g_getL (pc' := 91) dX11_spells_88 rfl (PLk.lf fX11_67) o159 rfl ?_
    refine g_lconst (pc' := 92) (v := 0) dX11_spells_91 rfl (by decide) ?_
    refine g_lif_ne (pc' := 96) (tgt := 108) dX11_spells_92 dX11_spells_93 rfl (by decide) (fun (c2 : ¬ (σ.2 159 14 : Int64) = 0) => ?_) (fun (c2 : (σ.2 159 14 : Int64) = 0) => ?_)
    · refine g_aload_n (pc' := 109) dX11_spells_108 rfl 0 rfl rfl ?_
      refine g_getL (pc' := 112) dX11_spells_109 rfl (PLk.lf fX11_57) o159 rfl ?_
      refine g_aload_n (pc' := 113) dX11_spells_112 rfl 0 rfl rfl ?_
      refine g_getL (pc' := 116) dX11_spells_113 rfl (PLk.lf fX11_64) o159 rfl ?_
      refine g_ldiv (pc' := 117) dX11_spells_116 rfl c1 ?_
      refine g_aload_n (pc' := 118) dX11_spells_117 rfl 0 rfl rfl ?_
      refine g_getL (pc' := 121) dX11_spells_118 rfl (PLk.lf fX11_61) o159 rfl ?_
      refine g_aload_n (pc' := 122) dX11_spells_121 rfl 0 rfl rfl ?_
      refine g_getL (pc' := 125) dX11_spells_122 rfl (PLk.lf fX11_67) o159 rfl ?_
      refine g_ldiv (pc' := 126) dX11_spells_125 rfl c2 ?_
      refine g_lif_ge (pc' := 130) (tgt := 142) dX11_spells_126 dX11_spells_127 rfl (by decide) (fun (c3 : ¬ ((σ.2 159 11) / (σ.2 159 13) : Int64) < ((σ.2 159 12) / (σ.2 159 14))) => ?_) (fun (c3 : ((σ.2 159 11) / (σ.2 159 13) : Int64) < ((σ.2 159 12) / (σ.2 159 14))) => ?_)
      · refine g_aload_n (pc' := 143) dX11_spells_142 rfl 0 rfl rfl ?_
        refine g_getL (pc' := 146) dX11_spells_143 rfl (PLk.lf fX11_61) o159 rfl ?_
        refine g_aload_n (pc' := 147) dX11_spells_146 rfl 0 rfl rfl ?_
        refine g_getL (pc' := 150) dX11_spells_147 rfl (PLk.lf fX11_67) o159 rfl ?_
        refine g_ldiv (pc' := 151) dX11_spells_150 rfl c2 ?_
        refine g_lstore_n (pc' := 152) (j := 2) (lv' := [(2, .long ((σ.2 159 12) / (σ.2 159 14))), (0, .ref (b + 159)), (1, .int (1))]) dX11_spells_151 rfl rfl (by decide) rfl ?_
        refine g_sub [1, 2, 0] rfl ?_
        rw [show nR σ = (σ.2 159 12) / (σ.2 159 14) by unfold nR; rw [if_neg c1, if_neg c2, if_neg c3]] at k5
        exact sg_R g k5
      · refine g_aload_n (pc' := 131) dX11_spells_130 rfl 0 rfl rfl ?_
        refine g_getL (pc' := 134) dX11_spells_131 rfl (PLk.lf fX11_57) o159 rfl ?_
        refine g_aload_n (pc' := 135) dX11_spells_134 rfl 0 rfl rfl ?_
        refine g_getL (pc' := 138) dX11_spells_135 rfl (PLk.lf fX11_64) o159 rfl ?_
        refine g_ldiv (pc' := 139) dX11_spells_138 rfl c1 ?_
        refine g_goto (tgt := 151) dX11_spells_139 (by decide) ?_
        refine g_lstore_n (pc' := 152) (j := 2) (lv' := [(2, .long ((σ.2 159 11) / (σ.2 159 13))), (0, .ref (b + 159)), (1, .int (1))]) dX11_spells_151 rfl rfl (by decide) rfl ?_
        refine g_sub [1, 2, 0] rfl ?_
        rw [show nR σ = (σ.2 159 11) / (σ.2 159 13) by unfold nR; rw [if_neg c1, if_neg c2, if_pos c3]] at k5
        exact sg_R g k5
    · refine g_aload_n (pc' := 97) dX11_spells_96 rfl 0 rfl rfl ?_
      refine g_getL (pc' := 100) dX11_spells_97 rfl (PLk.lf fX11_57) o159 rfl ?_
      refine g_aload_n (pc' := 101) dX11_spells_100 rfl 0 rfl rfl ?_
      refine g_getL (pc' := 104) dX11_spells_101 rfl (PLk.lf fX11_64) o159 rfl ?_
      refine g_ldiv (pc' := 105) dX11_spells_104 rfl c1 ?_
      refine g_goto (tgt := 151) dX11_spells_105 (by decide) ?_
      refine g_lstore_n (pc' := 152) (j := 2) (lv' := [(2, .long ((σ.2 159 11) / (σ.2 159 13))), (0, .ref (b + 159)), (1, .int (1))]) dX11_spells_151 rfl rfl (by decide) rfl ?_
      refine g_sub [1, 2, 0] rfl ?_
      rw [show nR σ = (σ.2 159 11) / (σ.2 159 13) by unfold nR; rw [if_neg c1, if_pos c2]] at k5
      exact sg_R g k5
  · refine g_aload_n (pc' := 76) dX11_spells_75 rfl 0 rfl rfl ?_
    refine g_getL (pc' := 79) dX11_spells_76 rfl (PLk.lf fX11_61) o159 rfl ?_
    refine g_aload_n (pc' := 80) dX11_spells_79 rfl 0 rfl rfl ?_
    refine g_getL (pc' := 83) dX11_spells_80 rfl (PLk.lf fX11_67) o159 rfl ?_
    refine g_ldiv (pc' := 84) dX11_spells_83 rfl (gd c1) ?_
    refine g_goto (tgt := 151) dX11_spells_84 (by decide) ?_
    refine g_lstore_n (pc' := 152) (j := 2) (lv' := [(2, .long ((σ.2 159 12) / (σ.2 159 14))), (0, .ref (b + 159)), (1, .int (1))]) dX11_spells_151 rfl rfl (by decide) rfl ?_
    refine g_sub [1, 2, 0] rfl ?_
    rw [show nR σ = (σ.2 159 12) / (σ.2 159 14) by unfold nR; rw [if_pos c1]] at k5
    exact sg_R g k5
set_option maxRecDepth 100000 in
set_option maxHeartbeats 4000000 in
theorem sg_l {l : Launch} {b : Nat} {cy : Nat → ClassId} {D : va_G} {d : Nat} {σ τ : Sg}  (g : ¬ σ.1 159 19 < 0 ∧ (σ.1 159 19).toNatClampNeg < 64) (gd : σ.2 159 11 = 0 → ¬ σ.2 159 12 = 0) (k5 : Gs l b cy D (d + 1) yX11_spells cX11_spells (Option.none : Option Jvm.ClassFile.FieldType) 4 none τ 5 [(0, .ref (b + 159))] [] (spL (nL σ) σ)) : Gs l b cy D (d + 1) yX11_spells cX11_spells (Option.none : Option Jvm.ClassFile.FieldType) 4 none τ 189 [(0, .ref (b + 159)), (1, .int (0))] [] σ := by
  refine g_aload_n (pc' := 190) dX11_spells_189 rfl 0 rfl rfl ?_
  refine g_getL (pc' := 193) dX11_spells_190 rfl (PLk.lf fX11_57) o159 rfl ?_
  refine g_lconst (pc' := 194) (v := 0) dX11_spells_193 rfl (by decide) ?_
  refine g_lif_ne (pc' := 198) (tgt := 210) dX11_spells_194 dX11_spells_195 rfl (by decide) (fun (c1 : ¬ (σ.2 159 11 : Int64) = 0) => ?_) (fun (c1 : (σ.2 159 11 : Int64) = 0) => ?_)
  · refine g_aload_n (pc' := 211) dX11_spells_210 rfl 0 rfl rfl ?_
    refine g_getL (pc' := 214) dX11_spells_211 rfl (PLk.lf fX11_61) o159 rfl ?_
    refine g_lconst (pc' := 215) (v := 0) dX11_spells_214 rfl (by decide) ?_
    refine g_lif_ne (pc' := 219) (tgt := 231) dX11_spells_215 dX11_spells_216 rfl (by decide) (fun (c2 : ¬ (σ.2 159 12 : Int64) = 0) => ?_) (fun (c2 : (σ.2 159 12 : Int64) = 0) => ?_)
    · refine g_aload_n (pc' := 232) dX11_spells_231 rfl 0 rfl rfl ?_
      refine g_getL (pc' := 235) dX11_spells_232 rfl (PLk.lf fX11_64) o159 rfl ?_
      refine g_aload_n (pc' := 236) dX11_spells_235 rfl 0 rfl rfl ?_
      refine g_getL (pc' := 239) dX11_spells_236 rfl (PLk.lf fX11_57) o159 rfl ?_
      refine g_ldiv (pc' := 240) dX11_spells_239 rfl c1 ?_
      refine g_aload_n (pc' := 241) dX11_spells_240 rfl 0 rfl rfl ?_
      refine g_getL (pc' := 244) dX11_spells_241 rfl (PLk.lf fX11_67) o159 rfl ?_
      refine g_aload_n (pc' := 245) dX11_spells_244 rfl 0 rfl rfl ?_
      refine g_getL (pc' := 248) dX11_spells_245 rfl (PLk.lf fX11_61) o159 rfl ?_
      refine g_ldiv (pc' := 249) dX11_spells_248 rfl c2 ?_
      refine g_lif_ge (pc' := 253) (tgt := 265) dX11_spells_249 dX11_spells_250 rfl (by decide) (fun (c3 : ¬ ((σ.2 159 13) / (σ.2 159 11) : Int64) < ((σ.2 159 14) / (σ.2 159 12))) => ?_) (fun (c3 : ((σ.2 159 13) / (σ.2 159 11) : Int64) < ((σ.2 159 14) / (σ.2 159 12))) => ?_)
      · refine g_aload_n (pc' := 266) dX11_spells_265 rfl 0 rfl rfl ?_
        refine g_getL (pc' := 269) dX11_spells_266 rfl (PLk.lf fX11_67) o159 rfl ?_
        refine g_aload_n (pc' := 270) dX11_spells_269 rfl 0 rfl rfl ?_
        refine g_getL (pc' := 273) dX11_spells_270 rfl (PLk.lf fX11_61) o159 rfl ?_
        refine g_ldiv (pc' := 274) dX11_spells_273 rfl c2 ?_
        refine g_lstore_n (pc' := 275) (j := 2) (lv' := [(2, .long ((σ.2 159 14) / (σ.2 159 12))), (0, .ref (b + 159)), (1, .int (0))]) dX11_spells_274 rfl rfl (by decide) rfl ?_
        refine g_sub [1, 2, 0] rfl ?_
        rw [show nL σ = (σ.2 159 14) / (σ.2 159 12) by unfold nL; rw [if_neg c1, if_neg c2, if_neg c3]] at k5
        exact sg_L g k5
      · refine g_aload_n (pc' := 254) dX11_spells_253 rfl 0 rfl rfl ?_
        refine g_getL (pc' := 257) dX11_spells_254 rfl (PLk.lf fX11_64) o159 rfl ?_
        refine g_aload_n (pc' := 258) dX11_spells_257 rfl 0 rfl rfl ?_
        refine g_getL (pc' := 261) dX11_spells_258 rfl (PLk.lf fX11_57) o159 rfl ?_
        refine g_ldiv (pc' := 262) dX11_spells_261 rfl c1 ?_
        refine g_goto (tgt := 274) dX11_spells_262 (by decide) ?_
        refine g_lstore_n (pc' := 275) (j := 2) (lv' := [(2, .long ((σ.2 159 13) / (σ.2 159 11))), (0, .ref (b + 159)), (1, .int (0))]) dX11_spells_274 rfl rfl (by decide) rfl ?_
        refine g_sub [1, 2, 0] rfl ?_
        rw [show nL σ = (σ.2 159 13) / (σ.2 159 11) by unfold nL; rw [if_neg c1, if_neg c2, if_pos c3]] at k5
        exact sg_L g k5
    · refine g_aload_n (pc' := 220) dX11_spells_219 rfl 0 rfl rfl ?_
      refine g_getL (pc' := 223) dX11_spells_220 rfl (PLk.lf fX11_64) o159 rfl ?_
      refine g_aload_n (pc' := 224) dX11_spells_223 rfl 0 rfl rfl ?_
      refine g_getL (pc' := 227) dX11_spells_224 rfl (PLk.lf fX11_57) o159 rfl ?_
      refine g_ldiv (pc' := 228) dX11_spells_227 rfl c1 ?_
      refine g_goto (tgt := 274) dX11_spells_228 (by decide) ?_
      refine g_lstore_n (pc' := 275) (j := 2) (lv' := [(2, .long ((σ.2 159 13) / (σ.2 159 11))), (0, .ref (b + 159)), (1, .int (0))]) dX11_spells_274 rfl rfl (by decide) rfl ?_
      refine g_sub [1, 2, 0] rfl ?_
      rw [show nL σ = (σ.2 159 13) / (σ.2 159 11) by unfold nL; rw [if_neg c1, if_pos c2]] at k5
      exact sg_L g k5
  · refine g_aload_n (pc' := 199) dX11_spells_198 rfl 0 rfl rfl ?_
    refine g_getL (pc' := 202) dX11_spells_199 rfl (PLk.lf fX11_67) o159 rfl ?_
    refine g_aload_n (pc' := 203) dX11_spells_202 rfl 0 rfl rfl ?_
    refine g_getL (pc' := 206) dX11_spells_203 rfl (PLk.lf fX11_61) o159 rfl ?_
    refine g_ldiv (pc' := 207) dX11_spells_206 rfl (gd c1) ?_
    refine g_goto (tgt := 274) dX11_spells_207 (by decide) ?_
    refine g_lstore_n (pc' := 275) (j := 2) (lv' := [(2, .long ((σ.2 159 14) / (σ.2 159 12))), (0, .ref (b + 159)), (1, .int (0))]) dX11_spells_274 rfl rfl (by decide) rfl ?_
    refine g_sub [1, 2, 0] rfl ?_
    rw [show nL σ = (σ.2 159 14) / (σ.2 159 12) by unfold nL; rw [if_pos c1]] at k5
    exact sg_L g k5
set_option maxRecDepth 100000 in
set_option maxHeartbeats 4000000 in
theorem sg_32 {l : Launch} {b : Nat} {cy : Nat → ClassId} {D : va_G} {d : Nat} {σ τ : Sg}  (g : SpG σ) (k5 : Gs l b cy D (d + 1) yX11_spells cX11_spells (Option.none : Option Jvm.ClassFile.FieldType) 4 none τ 5 [(0, .ref (b + 159))] [] (splS σ)) : Gs l b cy D (d + 1) yX11_spells cX11_spells (Option.none : Option Jvm.ClassFile.FieldType) 4 none τ 32 [(0, .ref (b + 159))] [] σ := by
  refine g_aload_n (pc' := 33) dX11_spells_32 rfl 0 rfl rfl ?_
  refine g_getL (pc' := 36) dX11_spells_33 rfl (PLk.lf fX11_57) o159 rfl ?_
  refine g_aload_n (pc' := 37) dX11_spells_36 rfl 0 rfl rfl ?_
  refine g_getL (pc' := 40) dX11_spells_37 rfl (PLk.lf fX11_64) o159 rfl ?_
  refine g_lif_lt (pc' := 44) (tgt := 60) dX11_spells_40 dX11_spells_41 rfl (by decide) (fun (c1 : (σ.2 159 11 : Int64) < (σ.2 159 13)) => ?_) (fun (c1 : ¬ (σ.2 159 11 : Int64) < (σ.2 159 13)) => ?_)
  · refine g_iconst (pc' := 61) (v := 0) dX11_spells_60 rfl (by decide) ?_
    refine g_istore_n (pc' := 62) (j := 1) (lv' := [(1, .int (0)), (0, .ref (b + 159))]) dX11_spells_61 rfl rfl (by decide) rfl ?_
    refine g_iload_n (pc' := 63) dX11_spells_62 rfl 0 rfl rfl ?_
    refine g_if_eq (pc' := 66) (tgt := 189) dX11_spells_63 rfl (by decide) (fun _ => ?_) (fun z => absurd z (by decide))
    refine g_sub [1, 0] rfl ?_
    have hr : splRt σ = false := by unfold splRt; rw [if_pos c1]
    rw [show splS σ = spL (nL σ) σ from if_neg (bf hr)] at k5
    exact sg_l g.1 (g.2.2 hr) k5
  · refine g_aload_n (pc' := 45) dX11_spells_44 rfl 0 rfl rfl ?_
    refine g_getL (pc' := 48) dX11_spells_45 rfl (PLk.lf fX11_61) o159 rfl ?_
    refine g_aload_n (pc' := 49) dX11_spells_48 rfl 0 rfl rfl ?_
    refine g_getL (pc' := 52) dX11_spells_49 rfl (PLk.lf fX11_67) o159 rfl ?_
    refine g_lif_lt (pc' := 56) (tgt := 60) dX11_spells_52 dX11_spells_53 rfl (by decide) (fun (c3 : (σ.2 159 12 : Int64) < (σ.2 159 14)) => ?_) (fun (c3 : ¬ (σ.2 159 12 : Int64) < (σ.2 159 14)) => ?_)
    · refine g_iconst (pc' := 61) (v := 0) dX11_spells_60 rfl (by decide) ?_
      refine g_istore_n (pc' := 62) (j := 1) (lv' := [(1, .int (0)), (0, .ref (b + 159))]) dX11_spells_61 rfl rfl (by decide) rfl ?_
      refine g_iload_n (pc' := 63) dX11_spells_62 rfl 0 rfl rfl ?_
      refine g_if_eq (pc' := 66) (tgt := 189) dX11_spells_63 rfl (by decide) (fun _ => ?_) (fun z => absurd z (by decide))
      refine g_sub [1, 0] rfl ?_
      have hr : splRt σ = false := by unfold splRt; rw [if_neg c1, if_pos c3]
      rw [show splS σ = spL (nL σ) σ from if_neg (bf hr)] at k5
      exact sg_l g.1 (g.2.2 hr) k5
    · refine g_iconst (pc' := 57) (v := 1) dX11_spells_56 rfl (by decide) ?_
      refine g_goto (tgt := 61) dX11_spells_57 (by decide) ?_
      refine g_istore_n (pc' := 62) (j := 1) (lv' := [(1, .int (1)), (0, .ref (b + 159))]) dX11_spells_61 rfl rfl (by decide) rfl ?_
      refine g_iload_n (pc' := 63) dX11_spells_62 rfl 0 rfl rfl ?_
      refine g_if_eq (pc' := 66) (tgt := 189) dX11_spells_63 rfl (by decide) (fun z => absurd z (by decide)) (fun _ => ?_)
      refine g_sub [1, 0] rfl ?_
      have hr : splRt σ = true := by unfold splRt; rw [if_neg c1, if_neg c3]
      rw [show splS σ = spR (nR σ) σ from if_pos hr] at k5
      exact sg_r g.1 (g.2.1 hr) k5
noncomputable def splF : Nat → Sg → Option Sg
  | 0, _ => none
  | m + 1, σ => if splD σ = true then some σ else @ite _ (SpG σ) (Classical.propDecidable _) (splF m (splS σ)) none
set_option maxRecDepth 100000 in
set_option maxHeartbeats 4000000 in
theorem lp_sp {l : Launch} {b : Nat} {cy : Nat → ClassId} {D : va_G} {d : Nat} {τ : Sg} : ∀ (m : Nat) (σ : Sg), splF m σ = some τ → Gs l b cy D (d + 1) yX11_spells cX11_spells (Option.none : Option Jvm.ClassFile.FieldType) 4 none τ 5 [(0, .ref (b + 159))] [] σ := by
  intro m
  induction m with
  | zero => intro σ h; exact absurd h (by rw [splF]; exact fun z => nomatch z)
  | succ m ih =>
    intro σ h
    refine g_aload_n (pc' := 6) dX11_spells_5 rfl 0 rfl rfl ?_
    refine g_getL (pc' := 9) dX11_spells_6 rfl (PLk.lf fX11_57) o159 rfl ?_
    refine g_lconst (pc' := 10) (v := 1) dX11_spells_9 rfl (by decide) ?_
    refine g_lif_ne (pc' := 14) (tgt := 32) dX11_spells_10 dX11_spells_11 rfl (by decide) (fun (c1 : ¬ (σ.2 159 11 : Int64) = 1) => ?_) (fun (c1 : (σ.2 159 11 : Int64) = 1) => ?_)
    · have hd : splD σ = false := by unfold splD; rw [if_neg c1]
      rw [splF, if_neg (bf hd)] at h
      by_cases g : SpG σ
      · rw [if_pos g] at h; exact sg_32 g (ih _ h)
      · rw [if_neg g] at h; cases h
    · refine g_aload_n (pc' := 15) dX11_spells_14 rfl 0 rfl rfl ?_
      refine g_getL (pc' := 18) dX11_spells_15 rfl (PLk.lf fX11_61) o159 rfl ?_
      refine g_lconst (pc' := 19) (v := 0) dX11_spells_18 rfl (by decide) ?_
      refine g_lif_ne (pc' := 23) (tgt := 32) dX11_spells_19 dX11_spells_20 rfl (by decide) (fun (c2 : ¬ (σ.2 159 12 : Int64) = 0) => ?_) (fun (c2 : (σ.2 159 12 : Int64) = 0) => ?_)
      · have hd : splD σ = false := by unfold splD; rw [if_pos c1, if_neg c2]
        rw [splF, if_neg (bf hd)] at h
        by_cases g : SpG σ
        · rw [if_pos g] at h; exact sg_32 g (ih _ h)
        · rw [if_neg g] at h; cases h
      · refine g_aload_n (pc' := 24) dX11_spells_23 rfl 0 rfl rfl ?_
        refine g_getL (pc' := 27) dX11_spells_24 rfl (PLk.lf fX11_64) o159 rfl ?_
        refine g_lconst (pc' := 28) (v := 0) dX11_spells_27 rfl (by decide) ?_
        refine g_lif_eq (pc' := 32) (tgt := 351) dX11_spells_28 dX11_spells_29 rfl (by decide) (fun (c3 : (σ.2 159 13 : Int64) = 0) => ?_) (fun (c3 : ¬ (σ.2 159 13 : Int64) = 0) => ?_)
        · exact g_vret dX11_spells_351 rfl ⟨rfl, rfl⟩ (by rw [splF, if_pos (show splD σ = true by unfold splD; rw [if_pos c1, if_pos c2, if_pos c3])] at h; rw [← Option.some.inj h])
        · have hd : splD σ = false := by unfold splD; rw [if_pos c1, if_pos c2, if_neg c3]
          rw [splF, if_neg (bf hd)] at h
          by_cases g : SpG σ
          · rw [if_pos g] at h; exact sg_32 g (ih _ h)
          · rw [if_neg g] at h; cases h
def spl0 (σ : Sg) : Sg := (u2 σ.1 159 19 0, σ.2)
noncomputable def splT (σ : Sg) : Sg := (splF 64 (spl0 σ)).getD (spl0 σ)
def SplOk (σ : Sg) : Prop := (splF 64 (spl0 σ)).isSome = true
set_option maxRecDepth 100000 in
set_option maxHeartbeats 4000000 in
theorem ev_X11_spells {l : Launch} {b : Nat} {cy : Nat → ClassId} {D : va_G} {d : Nat}    {σ : Sg}  (hT : SplOk σ) : Es l b cy D (d + 1) yX11_spells cX11_spells (Option.none : Option Jvm.ClassFile.FieldType) 4 [.ref (b + 159)] σ none (splT σ) := by
  refine Ev.of (by decide) (Nat.le_of_ble_eq_true rfl) rfl ?_
  refine g_aload_n (pc' := 1) dX11_spells_0 rfl 0 rfl rfl ?_
  refine g_iconst (pc' := 2) (v := 0) dX11_spells_1 rfl (by decide) ?_
  refine g_putI (pc' := 5) dX11_spells_2 rfl fX11_140 o159 rfl ?_
  refine g_sub [0] rfl ?_
  exact lp_sp 64 (spl0 σ) (getD_some hT)
