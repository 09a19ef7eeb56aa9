/-- the reference carries a stretch: r the root, u whether upward -/
def caF (r : Int64) : Nat → Bool → Sg → Option Sg
  | 0, _, _ => none
  | m + 1, true, σ => if (σ.2 159 12 : Int64) < 0 then if (σ.2 159 13 : Int64) < 0 then some (sX11_takes (σ.2 159 14) (0 - (σ.2 159 13)) (0 - (σ.2 159 12)) (σ.2 159 11) σ) else if rX11_far (2 * (σ.2 159 13)) σ = 0 then none else caF r m false (sX11_takes ((σ.2 159 11) - ((rX11_part ((σ.2 159 11) - (σ.2 159 14)) (2 * (σ.2 159 13)) r σ) * (σ.2 159 13))) ((((σ.2 159 11) * (rX11_part ((σ.2 159 11) - (σ.2 159 14)) (2 * (σ.2 159 13)) r σ)) + (σ.2 159 12)) - ((rX11_part ((σ.2 159 11) - (σ.2 159 14)) (2 * (σ.2 159 13)) r σ) * (((σ.2 159 13) * (rX11_part ((σ.2 159 11) - (σ.2 159 14)) (2 * (σ.2 159 13)) r σ)) + (σ.2 159 14)))) (σ.2 159 13) (((σ.2 159 13) * (rX11_part ((σ.2 159 11) - (σ.2 159 14)) (2 * (σ.2 159 13)) r σ)) + (σ.2 159 14)) σ) else if (σ.2 159 13 : Int64) < 0 then if rX11_far (2 * (σ.2 159 13)) σ = 0 then none else caF r m false (sX11_takes ((σ.2 159 11) - ((rX11_part ((σ.2 159 11) - (σ.2 159 14)) (2 * (σ.2 159 13)) r σ) * (σ.2 159 13))) ((((σ.2 159 11) * (rX11_part ((σ.2 159 11) - (σ.2 159 14)) (2 * (σ.2 159 13)) r σ)) + (σ.2 159 12)) - ((rX11_part ((σ.2 159 11) - (σ.2 159 14)) (2 * (σ.2 159 13)) r σ) * (((σ.2 159 13) * (rX11_part ((σ.2 159 11) - (σ.2 159 14)) (2 * (σ.2 159 13)) r σ)) + (σ.2 159 14)))) (σ.2 159 13) (((σ.2 159 13) * (rX11_part ((σ.2 159 11) - (σ.2 159 14)) (2 * (σ.2 159 13)) r σ)) + (σ.2 159 14)) σ) else some σ
  | m + 1, false, σ => if (σ.2 159 12 : Int64) < 0 then if (σ.2 159 13 : Int64) < 0 then some (sX11_takes (σ.2 159 14) (0 - (σ.2 159 13)) (0 - (σ.2 159 12)) (σ.2 159 11) σ) else if rX11_far (2 * (σ.2 159 12)) σ = 0 then none else caF r m true (sX11_takes ((σ.2 159 11) + ((σ.2 159 12) * (rX11_part ((σ.2 159 14) - (σ.2 159 11)) (2 * (σ.2 159 12)) r σ))) (σ.2 159 12) (((σ.2 159 13) + ((σ.2 159 14) * (rX11_part ((σ.2 159 14) - (σ.2 159 11)) (2 * (σ.2 159 12)) r σ))) - ((rX11_part ((σ.2 159 14) - (σ.2 159 11)) (2 * (σ.2 159 12)) r σ) * ((σ.2 159 11) + ((σ.2 159 12) * (rX11_part ((σ.2 159 14) - (σ.2 159 11)) (2 * (σ.2 159 12)) r σ))))) ((σ.2 159 14) - ((rX11_part ((σ.2 159 14) - (σ.2 159 11)) (2 * (σ.2 159 12)) r σ) * (σ.2 159 12))) σ) else if (σ.2 159 13 : Int64) < 0 then if rX11_far (2 * (σ.2 159 12)) σ = 0 then none else caF r m true (sX11_takes ((σ.2 159 11) + ((σ.2 159 12) * (rX11_part ((σ.2 159 14) - (σ.2 159 11)) (2 * (σ.2 159 12)) r σ))) (σ.2 159 12) (((σ.2 159 13) + ((σ.2 159 14) * (rX11_part ((σ.2 159 14) - (σ.2 159 11)) (2 * (σ.2 159 12)) r σ))) - ((rX11_part ((σ.2 159 14) - (σ.2 159 11)) (2 * (σ.2 159 12)) r σ) * ((σ.2 159 11) + ((σ.2 159 12) * (rX11_part ((σ.2 159 14) - (σ.2 159 11)) (2 * (σ.2 159 12)) r σ))))) ((σ.2 159 14) - ((rX11_part ((σ.2 159 14) - (σ.2 159 11)) (2 * (σ.2 159 12)) r σ) * (σ.2 159 12))) σ) else some σ
set_option maxRecDepth 100000 in
set_option maxHeartbeats 4000000 in
theorem lp_ca {l : Launch} {b : Nat} {cy : Nat → ClassId} {D : va_G} {d : Nat} {r : Int64} {τ : Sg} : ∀ (m : Nat) (u : Bool) (σ : Sg), caF r m u σ = some τ → Gs l b cy D (d + 2) yX11_carries cX11_carries (Option.none : Option Jvm.ClassFile.FieldType) 10 none τ 19 [(0, .ref (b + 159)), (1, .long r), (3, .int (bI u))] [] σ := by
  intro m
  induction m with
  | zero => intro u σ h; exact absurd h (by rw [caF]; exact fun z => nomatch z)
  | succ m ih =>
    intro u σ h
    cases u with
    | true =>
      refine g_aload_n (pc' := 20) dX11_carries_19 rfl 0 rfl rfl ?_
      refine g_getL (pc' := 23) dX11_carries_20 rfl (PLk.lf fX11_61) o159 rfl ?_
      refine g_lconst (pc' := 24) (v := 0) dX11_carries_23 rfl (by decide) ?_
      refine g_lif_ge (pc' := 28) (tgt := 32) dX11_carries_24 dX11_carries_25 rfl (by decide) (fun (c1 : ¬ (σ.2 159 12 : Int64) < 0) => ?_) (fun (c1 : (σ.2 159 12 : Int64) < 0) => ?_)
      · refine g_iconst (pc' := 33) (v := 0) dX11_carries_32 rfl (by decide) ?_
        refine g_aload_n (pc' := 34) dX11_carries_33 rfl 0 rfl rfl ?_
        refine g_getL (pc' := 37) dX11_carries_34 rfl (PLk.lf fX11_64) o159 rfl ?_
        refine g_lconst (pc' := 38) (v := 0) dX11_carries_37 rfl (by decide) ?_
        refine g_lif_ge (pc' := 42) (tgt := 46) dX11_carries_38 dX11_carries_39 rfl (by decide) (fun (c2 : ¬ (σ.2 159 13 : Int64) < 0) => ?_) (fun (c2 : (σ.2 159 13 : Int64) < 0) => ?_)
        · refine g_iconst (pc' := 47) (v := 0) dX11_carries_46 rfl (by decide) ?_
          refine g_icmp_eq (pc' := 50) (tgt := 252) dX11_carries_47 rfl (by decide) (fun _ => ?_) (fun z => absurd z (by decide))
          refine g_aload_n (pc' := 253) dX11_carries_252 rfl 0 rfl rfl ?_
          refine g_getL (pc' := 256) dX11_carries_253 rfl (PLk.lf fX11_61) o159 rfl ?_
          refine g_lconst (pc' := 257) (v := 0) dX11_carries_256 rfl (by decide) ?_
          refine g_lif_ge (pc' := 261) (tgt := 285) dX11_carries_257 dX11_carries_258 rfl (by decide) (fun _ => ?_) (fun z => absurd z c1)
          exact g_vret dX11_carries_285 rfl ⟨rfl, rfl⟩ (by rw [caF, if_neg c1, if_neg c2] at h; rw [← Option.some.inj h])
        · refine g_iconst (pc' := 43) (v := 1) dX11_carries_42 rfl (by decide) ?_
          refine g_goto (tgt := 47) dX11_carries_43 (by decide) ?_
          refine g_icmp_eq (pc' := 50) (tgt := 252) dX11_carries_47 rfl (by decide) (fun z => absurd z (by decide)) (fun _ => ?_)
          refine g_iload_n (pc' := 51) dX11_carries_50 rfl 2 rfl rfl ?_
          refine g_if_eq (pc' := 54) (tgt := 66) dX11_carries_51 rfl (by decide) (fun z => absurd z (by decide)) (fun _ => ?_)
          refine g_aload_n (pc' := 55) dX11_carries_54 rfl 0 rfl rfl ?_
          refine g_getL (pc' := 58) dX11_carries_55 rfl (PLk.lf fX11_57) o159 rfl ?_
          refine g_aload_n (pc' := 59) dX11_carries_58 rfl 0 rfl rfl ?_
          refine g_getL (pc' := 62) dX11_carries_59 rfl (PLk.lf fX11_67) o159 rfl ?_
          refine g_lsub (pc' := 63) dX11_carries_62 rfl ?_
          refine g_goto (tgt := 75) dX11_carries_63 (by decide) ?_
          refine g_lstore (pc' := 77) (j := 4) (lv' := [(4, .long ((σ.2 159 11) - (σ.2 159 14))), (0, .ref (b + 159)), (1, .long (r)), (3, .int (1))]) dX11_carries_75 rfl (by decide) rfl ?_
          refine g_iload_n (pc' := 78) dX11_carries_77 rfl 3 rfl rfl ?_
          refine g_if_eq (pc' := 81) (tgt := 92) dX11_carries_78 rfl (by decide) (fun z => absurd z (by decide)) (fun _ => ?_)
          refine g_ldc2 (pc' := 84) dX11_carries_81 rfl kX11_134 ?_
          refine g_aload_n (pc' := 85) dX11_carries_84 rfl 1 rfl rfl ?_
          refine g_getL (pc' := 88) dX11_carries_85 rfl (PLk.lf fX11_64) o159 rfl ?_
          refine g_lmul (pc' := 89) dX11_carries_88 rfl ?_
          refine g_goto (tgt := 100) dX11_carries_89 (by decide) ?_
          refine g_lstore (pc' := 102) (j := 6) (lv' := [(6, .long (2 * (σ.2 159 13))), (4, .long ((σ.2 159 11) - (σ.2 159 14))), (0, .ref (b + 159)), (1, .long (r)), (3, .int (1))]) dX11_carries_100 rfl (by decide) rfl ?_
          refine g_lload (pc' := 104) dX11_carries_102 rfl 1 rfl ?_
          refine g_lload (pc' := 106) dX11_carries_104 rfl 0 rfl ?_
          refine g_lload_n (pc' := 107) dX11_carries_106 rfl 3 rfl rfl ?_
          refine (Classical.em (rX11_far (2 * (σ.2 159 13)) σ = 0)).elim (fun g9 => absurd h (by rw [caF, if_neg c1, if_pos c2, if_pos g9]; exact fun z => nomatch z)) (fun (g8 : ¬ rX11_far (2 * (σ.2 159 13)) σ = 0) => ?_)
          refine g_callsr (pc' := 110) dX11_carries_107 rfl mX11_136 (ev_X11_part (x1 := (σ.2 159 11) - (σ.2 159 14)) (x2 := 2 * (σ.2 159 13)) (x3 := r) (σ := σ) g8 (d := d)) (rm_ok (by omega) (by decide)) ⟨rfl, rfl⟩ ⟨Nat.zero_le _, Nat.zero_le _⟩ rfl rfl (Nat.le_of_ble_eq_true rfl) ?_
          refine g_lstore (pc' := 112) (j := 8) (lv' := [(8, .long (rX11_part ((σ.2 159 11) - (σ.2 159 14)) (2 * (σ.2 159 13)) r σ)), (6, .long (2 * (σ.2 159 13))), (4, .long ((σ.2 159 11) - (σ.2 159 14))), (0, .ref (b + 159)), (1, .long (r)), (3, .int (1))]) dX11_carries_110 rfl (by decide) rfl ?_
          refine g_iload_n (pc' := 113) dX11_carries_112 rfl 5 rfl rfl ?_
          refine g_if_eq (pc' := 116) (tgt := 179) dX11_carries_113 rfl (by decide) (fun z => absurd z (by decide)) (fun _ => ?_)
          refine g_aload_n (pc' := 117) dX11_carries_116 rfl 3 rfl rfl ?_
          refine g_aload_n (pc' := 118) dX11_carries_117 rfl 3 rfl rfl ?_
          refine g_getL (pc' := 121) dX11_carries_118 rfl (PLk.lf fX11_57) o159 rfl ?_
          refine g_lload (pc' := 123) dX11_carries_121 rfl 0 rfl ?_
          refine g_aload_n (pc' := 124) dX11_carries_123 rfl 3 rfl rfl ?_
          refine g_getL (pc' := 127) dX11_carries_124 rfl (PLk.lf fX11_64) o159 rfl ?_
          refine g_lmul (pc' := 128) dX11_carries_127 rfl ?_
          refine g_lsub (pc' := 129) dX11_carries_128 rfl ?_
          refine g_aload_n (pc' := 130) dX11_carries_129 rfl 3 rfl rfl ?_
          refine g_getL (pc' := 133) dX11_carries_130 rfl (PLk.lf fX11_57) o159 rfl ?_
          refine g_lload (pc' := 135) dX11_carries_133 rfl 0 rfl ?_
          refine g_lmul (pc' := 136) dX11_carries_135 rfl ?_
          refine g_aload_n (pc' := 137) dX11_carries_136 rfl 3 rfl rfl ?_
          refine g_getL (pc' := 140) dX11_carries_137 rfl (PLk.lf fX11_61) o159 rfl ?_
          refine g_ladd (pc' := 141) dX11_carries_140 rfl ?_
          refine g_lload (pc' := 143) dX11_carries_141 rfl 0 rfl ?_
          refine g_aload_n (pc' := 144) dX11_carries_143 rfl 3 rfl rfl ?_
          refine g_getL (pc' := 147) dX11_carries_144 rfl (PLk.lf fX11_64) o159 rfl ?_
          refine g_lload (pc' := 149) dX11_carries_147 rfl 0 rfl ?_
          refine g_lmul (pc' := 150) dX11_carries_149 rfl ?_
          refine g_aload_n (pc' := 151) dX11_carries_150 rfl 3 rfl rfl ?_
          refine g_getL (pc' := 154) dX11_carries_151 rfl (PLk.lf fX11_67) o159 rfl ?_
          refine g_ladd (pc' := 155) dX11_carries_154 rfl ?_
          refine g_lmul (pc' := 156) dX11_carries_155 rfl ?_
          refine g_lsub (pc' := 157) dX11_carries_156 rfl ?_
          refine g_aload_n (pc' := 158) dX11_carries_157 rfl 3 rfl rfl ?_
          refine g_getL (pc' := 161) dX11_carries_158 rfl (PLk.lf fX11_64) o159 rfl ?_
          refine g_aload_n (pc' := 162) dX11_carries_161 rfl 3 rfl rfl ?_
          refine g_getL (pc' := 165) dX11_carries_162 rfl (PLk.lf fX11_64) o159 rfl ?_
          refine g_lload (pc' := 167) dX11_carries_165 rfl 0 rfl ?_
          refine g_lmul (pc' := 168) dX11_carries_167 rfl ?_
          refine g_aload_n (pc' := 169) dX11_carries_168 rfl 3 rfl rfl ?_
          refine g_getL (pc' := 172) dX11_carries_169 rfl (PLk.lf fX11_67) o159 rfl ?_
          refine g_ladd (pc' := 173) dX11_carries_172 rfl ?_
          refine g_callv (pc' := 176) dX11_carries_173 rfl mX11_70 (ev_X11_takes (x1 := (σ.2 159 11) - ((rX11_part ((σ.2 159 11) - (σ.2 159 14)) (2 * (σ.2 159 13)) r σ) * (σ.2 159 13))) (x2 := (((σ.2 159 11) * (rX11_part ((σ.2 159 11) - (σ.2 159 14)) (2 * (σ.2 159 13)) r σ)) + (σ.2 159 12)) - ((rX11_part ((σ.2 159 11) - (σ.2 159 14)) (2 * (σ.2 159 13)) r σ) * (((σ.2 159 13) * (rX11_part ((σ.2 159 11) - (σ.2 159 14)) (2 * (σ.2 159 13)) r σ)) + (σ.2 159 14)))) (x3 := σ.2 159 13) (x4 := ((σ.2 159 13) * (rX11_part ((σ.2 159 11) - (σ.2 159 14)) (2 * (σ.2 159 13)) r σ)) + (σ.2 159 14)) (σ := σ)  (d := d + 1)) o159 rfl (rm_ok (by omega) (by decide)) ⟨rfl, rfl⟩ ⟨Nat.zero_le _, Nat.zero_le _⟩ rfl rfl (Nat.le_of_ble_eq_true rfl) ?_
          refine g_goto (tgt := 239) dX11_carries_176 (by decide) ?_
          refine g_iload_n (pc' := 240) dX11_carries_239 rfl 5 rfl rfl ?_
          refine g_if_ne (pc' := 243) (tgt := 247) dX11_carries_240 rfl (by decide) (fun _ => ?_) (fun z => absurd z (by decide))
          refine g_iconst (pc' := 248) (v := 0) dX11_carries_247 rfl (by decide) ?_
          refine g_istore_n (pc' := 249) (j := 3) (lv' := [(3, .int (0)), (8, .long (rX11_part ((σ.2 159 11) - (σ.2 159 14)) (2 * (σ.2 159 13)) r σ)), (6, .long (2 * (σ.2 159 13))), (4, .long ((σ.2 159 11) - (σ.2 159 14))), (0, .ref (b + 159)), (1, .long (r))]) dX11_carries_248 rfl rfl (by decide) rfl ?_
          refine g_goto (tgt := 19) dX11_carries_249 (by decide) ?_
          refine g_sub [4, 5, 0] rfl ?_
          exact ih false (sX11_takes ((σ.2 159 11) - ((rX11_part ((σ.2 159 11) - (σ.2 159 14)) (2 * (σ.2 159 13)) r σ) * (σ.2 159 13))) ((((σ.2 159 11) * (rX11_part ((σ.2 159 11) - (σ.2 159 14)) (2 * (σ.2 159 13)) r σ)) + (σ.2 159 12)) - ((rX11_part ((σ.2 159 11) - (σ.2 159 14)) (2 * (σ.2 159 13)) r σ) * (((σ.2 159 13) * (rX11_part ((σ.2 159 11) - (σ.2 159 14)) (2 * (σ.2 159 13)) r σ)) + (σ.2 159 14)))) (σ.2 159 13) (((σ.2 159 13) * (rX11_part ((σ.2 159 11) - (σ.2 159 14)) (2 * (σ.2 159 13)) r σ)) + (σ.2 159 14)) σ) (by rw [caF, if_neg c1, if_pos c2, if_neg g8] at h; exact h)
      · refine g_iconst (pc' := 29) (v := 1) dX11_carries_28 rfl (by decide) ?_
        refine g_goto (tgt := 33) dX11_carries_29 (by decide) ?_
        refine g_aload_n (pc' := 34) dX11_carries_33 rfl 0 rfl rfl ?_
        refine g_getL (pc' := 37) dX11_carries_34 rfl (PLk.lf fX11_64) o159 rfl ?_
        refine g_lconst (pc' := 38) (v := 0) dX11_carries_37 rfl (by decide) ?_
        refine g_lif_ge (pc' := 42) (tgt := 46) dX11_carries_38 dX11_carries_39 rfl (by decide) (fun (c11 : ¬ (σ.2 159 13 : Int64) < 0) => ?_) (fun (c11 : (σ.2 159 13 : Int64) < 0) => ?_)
        · refine g_iconst (pc' := 47) (v := 0) dX11_carries_46 rfl (by decide) ?_
          refine g_icmp_eq (pc' := 50) (tgt := 252) dX11_carries_47 rfl (by decide) (fun z => absurd z (by decide)) (fun _ => ?_)
          refine g_iload_n (pc' := 51) dX11_carries_50 rfl 2 rfl rfl ?_
          refine g_if_eq (pc' := 54) (tgt := 66) dX11_carries_51 rfl (by decide) (fun z => absurd z (by decide)) (fun _ => ?_)
          refine g_aload_n (pc' := 55) dX11_carries_54 rfl 0 rfl rfl ?_
          refine g_getL (pc' := 58) dX11_carries_55 rfl (PLk.lf fX11_57) o159 rfl ?_
          refine g_aload_n (pc' := 59) dX11_carries_58 rfl 0 rfl rfl ?_
          refine g_getL (pc' := 62) dX11_carries_59 rfl (PLk.lf fX11_67) o159 rfl ?_
          refine g_lsub (pc' := 63) dX11_carries_62 rfl ?_
          refine g_goto (tgt := 75) dX11_carries_63 (by decide) ?_
          refine g_lstore (pc' := 77) (j := 4) (lv' := [(4, .long ((σ.2 159 11) - (σ.2 159 14))), (0, .ref (b + 159)), (1, .long (r)), (3, .int (1))]) dX11_carries_75 rfl (by decide) rfl ?_
          refine g_iload_n (pc' := 78) dX11_carries_77 rfl 3 rfl rfl ?_
          refine g_if_eq (pc' := 81) (tgt := 92) dX11_carries_78 rfl (by decide) (fun z => absurd z (by decide)) (fun _ => ?_)
          refine g_ldc2 (pc' := 84) dX11_carries_81 rfl kX11_134 ?_
          refine g_aload_n (pc' := 85) dX11_carries_84 rfl 1 rfl rfl ?_
          refine g_getL (pc' := 88) dX11_carries_85 rfl (PLk.lf fX11_64) o159 rfl ?_
          refine g_lmul (pc' := 89) dX11_carries_88 rfl ?_
          refine g_goto (tgt := 100) dX11_carries_89 (by decide) ?_
          refine g_lstore (pc' := 102) (j := 6) (lv' := [(6, .long (2 * (σ.2 159 13))), (4, .long ((σ.2 159 11) - (σ.2 159 14))), (0, .ref (b + 159)), (1, .long (r)), (3, .int (1))]) dX11_carries_100 rfl (by decide) rfl ?_
          refine g_lload (pc' := 104) dX11_carries_102 rfl 1 rfl ?_
          refine g_lload (pc' := 106) dX11_carries_104 rfl 0 rfl ?_
          refine g_lload_n (pc' := 107) dX11_carries_106 rfl 3 rfl rfl ?_
          refine (Classical.em (rX11_far (2 * (σ.2 159 13)) σ = 0)).elim (fun g9 => absurd h (by rw [caF, if_pos c1, if_neg c11, if_pos g9]; exact fun z => nomatch z)) (fun (g15 : ¬ rX11_far (2 * (σ.2 159 13)) σ = 0) => ?_)
          refine g_callsr (pc' := 110) dX11_carries_107 rfl mX11_136 (ev_X11_part (x1 := (σ.2 159 11) - (σ.2 159 14)) (x2 := 2 * (σ.2 159 13)) (x3 := r) (σ := σ) g15 (d := d)) (rm_ok (by omega) (by decide)) ⟨rfl, rfl⟩ ⟨Nat.zero_le _, Nat.zero_le _⟩ rfl rfl (Nat.le_of_ble_eq_true rfl) ?_
          refine g_lstore (pc' := 112) (j := 8) (lv' := [(8, .long (rX11_part ((σ.2 159 11) - (σ.2 159 14)) (2 * (σ.2 159 13)) r σ)), (6, .long (2 * (σ.2 159 13))), (4, .long ((σ.2 159 11) - (σ.2 159 14))), (0, .ref (b + 159)), (1, .long (r)), (3, .int (1))]) dX11_carries_110 rfl (by decide) rfl ?_
          refine g_iload_n (pc' := 113) dX11_carries_112 rfl 5 rfl rfl ?_
          refine g_if_eq (pc' := 116) (tgt := 179) dX11_carries_113 rfl (by decide) (fun z => absurd z (by decide)) (fun _ => ?_)
          refine g_aload_n (pc' := 117) dX11_carries_116 rfl 3 rfl rfl ?_
          refine g_aload_n (pc' := 118) dX11_carries_117 rfl 3 rfl rfl ?_
          refine g_getL (pc' := 121) dX11_carries_118 rfl (PLk.lf fX11_57) o159 rfl ?_
          refine g_lload (pc' := 123) dX11_carries_121 rfl 0 rfl ?_
          refine g_aload_n (pc' := 124) dX11_carries_123 rfl 3 rfl rfl ?_
          refine g_getL (pc' := 127) dX11_carries_124 rfl (PLk.lf fX11_64) o159 rfl ?_
          refine g_lmul (pc' := 128) dX11_carries_127 rfl ?_
          refine g_lsub (pc' := 129) dX11_carries_128 rfl ?_
          refine g_aload_n (pc' := 130) dX11_carries_129 rfl 3 rfl rfl ?_
          refine g_getL (pc' := 133) dX11_carries_130 rfl (PLk.lf fX11_57) o159 rfl ?_
          refine g_lload (pc' := 135) dX11_carries_133 rfl 0 rfl ?_
          refine g_lmul (pc' := 136) dX11_carries_135 rfl ?_
          refine g_aload_n (pc' := 137) dX11_carries_136 rfl 3 rfl rfl ?_
          refine g_getL (pc' := 140) dX11_carries_137 rfl (PLk.lf fX11_61) o159 rfl ?_
          refine g_ladd (pc' := 141) dX11_carries_140 rfl ?_
          refine g_lload (pc' := 143) dX11_carries_141 rfl 0 rfl ?_
          refine g_aload_n (pc' := 144) dX11_carries_143 rfl 3 rfl rfl ?_
          refine g_getL (pc' := 147) dX11_carries_144 rfl (PLk.lf fX11_64) o159 rfl ?_
          refine g_lload (pc' := 149) dX11_carries_147 rfl 0 rfl ?_
          refine g_lmul (pc' := 150) dX11_carries_149 rfl ?_
          refine g_aload_n (pc' := 151) dX11_carries_150 rfl 3 rfl rfl ?_
          refine g_getL (pc' := 154) dX11_carries_151 rfl (PLk.lf fX11_67) o159 rfl ?_
          refine g_ladd (pc' := 155) dX11_carries_154 rfl ?_
          refine g_lmul (pc' := 156) dX11_carries_155 rfl ?_
          refine g_lsub (pc' := 157) dX11_carries_156 rfl ?_
          refine g_aload_n (pc' := 158) dX11_carries_157 rfl 3 rfl rfl ?_
          refine g_getL (pc' := 161) dX11_carries_158 rfl (PLk.lf fX11_64) o159 rfl ?_
          refine g_aload_n (pc' := 162) dX11_carries_161 rfl 3 rfl rfl ?_
          refine g_getL (pc' := 165) dX11_carries_162 rfl (PLk.lf fX11_64) o159 rfl ?_
          refine g_lload (pc' := 167) dX11_carries_165 rfl 0 rfl ?_
          refine g_lmul (pc' := 168) dX11_carries_167 rfl ?_
          refine g_aload_n (pc' := 169) dX11_carries_168 rfl 3 rfl rfl ?_
          refine g_getL (pc' := 172) dX11_carries_169 rfl (PLk.lf fX11_67) o159 rfl ?_
          refine g_ladd (pc' := 173) dX11_carries_172 rfl ?_
          refine g_callv (pc' := 176) dX11_carries_173 rfl mX11_70 (ev_X11_takes (x1 := (σ.2 159 11) - ((rX11_part ((σ.2 159 11) - (σ.2 159 14)) (2 * (σ.2 159 13)) r σ) * (σ.2 159 13))) (x2 := (((σ.2 159 11) * (rX11_part ((σ.2 159 11) - (σ.2 159 14)) (2 * (σ.2 159 13)) r σ)) + (σ.2 159 12)) - ((rX11_part ((σ.2 159 11) - (σ.2 159 14)) (2 * (σ.2 159 13)) r σ) * (((σ.2 159 13) * (rX11_part ((σ.2 159 11) - (σ.2 159 14)) (2 * (σ.2 159 13)) r σ)) + (σ.2 159 14)))) (x3 := σ.2 159 13) (x4 := ((σ.2 159 13) * (rX11_part ((σ.2 159 11) - (σ.2 159 14)) (2 * (σ.2 159 13)) r σ)) + (σ.2 159 14)) (σ := σ)  (d := d + 1)) o159 rfl (rm_ok (by omega) (by decide)) ⟨rfl, rfl⟩ ⟨Nat.zero_le _, Nat.zero_le _⟩ rfl rfl (Nat.le_of_ble_eq_true rfl) ?_
          refine g_goto (tgt := 239) dX11_carries_176 (by decide) ?_
          refine g_iload_n (pc' := 240) dX11_carries_239 rfl 5 rfl rfl ?_
          refine g_if_ne (pc' := 243) (tgt := 247) dX11_carries_240 rfl (by decide) (fun _ => ?_) (fun z => absurd z (by decide))
          refine g_iconst (pc' := 248) (v := 0) dX11_carries_247 rfl (by decide) ?_
          refine g_istore_n (pc' := 249) (j := 3) (lv' := [(3, .int (0)), (8, .long (rX11_part ((σ.2 159 11) - (σ.2 159 14)) (2 * (σ.2 159 13)) r σ)), (6, .long (2 * (σ.2 159 13))), (4, .long ((σ.2 159 11) - (σ.2 159 14))), (0, .ref (b + 159)), (1, .long (r))]) dX11_carries_248 rfl rfl (by decide) rfl ?_
          refine g_goto (tgt := 19) dX11_carries_249 (by decide) ?_
          refine g_sub [4, 5, 0] rfl ?_
          exact ih false (sX11_takes ((σ.2 159 11) - ((rX11_part ((σ.2 159 11) - (σ.2 159 14)) (2 * (σ.2 159 13)) r σ) * (σ.2 159 13))) ((((σ.2 159 11) * (rX11_part ((σ.2 159 11) - (σ.2 159 14)) (2 * (σ.2 159 13)) r σ)) + (σ.2 159 12)) - ((rX11_part ((σ.2 159 11) - (σ.2 159 14)) (2 * (σ.2 159 13)) r σ) * (((σ.2 159 13) * (rX11_part ((σ.2 159 11) - (σ.2 159 14)) (2 * (σ.2 159 13)) r σ)) + (σ.2 159 14)))) (σ.2 159 13) (((σ.2 159 13) * (rX11_part ((σ.2 159 11) - (σ.2 159 14)) (2 * (σ.2 159 13)) r σ)) + (σ.2 159 14)) σ) (by rw [caF, if_pos c1, if_neg c11, if_neg g15] at h; exact h)
        · refine g_iconst (pc' := 43) (v := 1) dX11_carries_42 rfl (by decide) ?_
          refine g_goto (tgt := 47) dX11_carries_43 (by decide) ?_
          refine g_icmp_eq (pc' := 50) (tgt := 252) dX11_carries_47 rfl (by decide) (fun _ => ?_) (fun z => absurd z (by decide))
          refine g_aload_n (pc' := 253) dX11_carries_252 rfl 0 rfl rfl ?_
          refine g_getL (pc' := 256) dX11_carries_253 rfl (PLk.lf fX11_61) o159 rfl ?_
          refine g_lconst (pc' := 257) (v := 0) dX11_carries_256 rfl (by decide) ?_
          refine g_lif_ge (pc' := 261) (tgt := 285) dX11_carries_257 dX11_carries_258 rfl (by decide) (fun z => absurd c1 z) (fun _ => ?_)
          refine g_aload_n (pc' := 262) dX11_carries_261 rfl 0 rfl rfl ?_
          refine g_aload_n (pc' := 263) dX11_carries_262 rfl 0 rfl rfl ?_
          refine g_getL (pc' := 266) dX11_carries_263 rfl (PLk.lf fX11_67) o159 rfl ?_
          refine g_lconst (pc' := 267) (v := 0) dX11_carries_266 rfl (by decide) ?_
          refine g_aload_n (pc' := 268) dX11_carries_267 rfl 0 rfl rfl ?_
          refine g_getL (pc' := 271) dX11_carries_268 rfl (PLk.lf fX11_64) o159 rfl ?_
          refine g_lsub (pc' := 272) dX11_carries_271 rfl ?_
          refine g_lconst (pc' := 273) (v := 0) dX11_carries_272 rfl (by decide) ?_
          refine g_aload_n (pc' := 274) dX11_carries_273 rfl 0 rfl rfl ?_
          refine g_getL (pc' := 277) dX11_carries_274 rfl (PLk.lf fX11_61) o159 rfl ?_
          refine g_lsub (pc' := 278) dX11_carries_277 rfl ?_
          refine g_aload_n (pc' := 279) dX11_carries_278 rfl 0 rfl rfl ?_
          refine g_getL (pc' := 282) dX11_carries_279 rfl (PLk.lf fX11_57) o159 rfl ?_
          refine g_callv (pc' := 285) dX11_carries_282 rfl mX11_70 (ev_X11_takes (x1 := σ.2 159 14) (x2 := 0 - (σ.2 159 13)) (x3 := 0 - (σ.2 159 12)) (x4 := σ.2 159 11) (σ := σ)  (d := d + 1)) o159 rfl (rm_ok (by omega) (by decide)) ⟨rfl, rfl⟩ ⟨Nat.zero_le _, Nat.zero_le _⟩ rfl rfl (Nat.le_of_ble_eq_true rfl) ?_
          exact g_vret dX11_carries_285 rfl ⟨rfl, rfl⟩ (by rw [caF, if_pos c1, if_pos c11] at h; rw [← Option.some.inj h])
    | false =>
      refine g_aload_n (pc' := 20) dX11_carries_19 rfl 0 rfl rfl ?_
      refine g_getL (pc' := 23) dX11_carries_20 rfl (PLk.lf fX11_61) o159 rfl ?_
      refine g_lconst (pc' := 24) (v := 0) dX11_carries_23 rfl (by decide) ?_
      refine g_lif_ge (pc' := 28) (tgt := 32) dX11_carries_24 dX11_carries_25 rfl (by decide) (fun (c1 : ¬ (σ.2 159 12 : Int64) < 0) => ?_) (fun (c1 : (σ.2 159 12 : Int64) < 0) => ?_)
      · refine g_iconst (pc' := 33) (v := 0) dX11_carries_32 rfl (by decide) ?_
        refine g_aload_n (pc' := 34) dX11_carries_33 rfl 0 rfl rfl ?_
        refine g_getL (pc' := 37) dX11_carries_34 rfl (PLk.lf fX11_64) o159 rfl ?_
        refine g_lconst (pc' := 38) (v := 0) dX11_carries_37 rfl (by decide) ?_
        refine g_lif_ge (pc' := 42) (tgt := 46) dX11_carries_38 dX11_carries_39 rfl (by decide) (fun (c2 : ¬ (σ.2 159 13 : Int64) < 0) => ?_) (fun (c2 : (σ.2 159 13 : Int64) < 0) => ?_)
        · refine g_iconst (pc' := 47) (v := 0) dX11_carries_46 rfl (by decide) ?_
          refine g_icmp_eq (pc' := 50) (tgt := 252) dX11_carries_47 rfl (by decide) (fun _ => ?_) (fun z => absurd z (by decide))
          refine g_aload_n (pc' := 253) dX11_carries_252 rfl 0 rfl rfl ?_
          refine g_getL (pc' := 256) dX11_carries_253 rfl (PLk.lf fX11_61) o159 rfl ?_
          refine g_lconst (pc' := 257) (v := 0) dX11_carries_256 rfl (by decide) ?_
          refine g_lif_ge (pc' := 261) (tgt := 285) dX11_carries_257 dX11_carries_258 rfl (by decide) (fun _ => ?_) (fun z => absurd z c1)
          exact g_vret dX11_carries_285 rfl ⟨rfl, rfl⟩ (by rw [caF, if_neg c1, if_neg c2] at h; rw [← Option.some.inj h])
        · refine g_iconst (pc' := 43) (v := 1) dX11_carries_42 rfl (by decide) ?_
          refine g_goto (tgt := 47) dX11_carries_43 (by decide) ?_
          refine g_icmp_eq (pc' := 50) (tgt := 252) dX11_carries_47 rfl (by decide) (fun z => absurd z (by decide)) (fun _ => ?_)
          refine g_iload_n (pc' := 51) dX11_carries_50 rfl 2 rfl rfl ?_
          refine g_if_eq (pc' := 54) (tgt := 66) dX11_carries_51 rfl (by decide) (fun _ => ?_) (fun z => absurd z (by decide))
          refine g_aload_n (pc' := 67) dX11_carries_66 rfl 0 rfl rfl ?_
          refine g_getL (pc' := 70) dX11_carries_67 rfl (PLk.lf fX11_67) o159 rfl ?_
          refine g_aload_n (pc' := 71) dX11_carries_70 rfl 0 rfl rfl ?_
          refine g_getL (pc' := 74) dX11_carries_71 rfl (PLk.lf fX11_57) o159 rfl ?_
          refine g_lsub (pc' := 75) dX11_carries_74 rfl ?_
          refine g_lstore (pc' := 77) (j := 4) (lv' := [(4, .long ((σ.2 159 14) - (σ.2 159 11))), (0, .ref (b + 159)), (1, .long (r)), (3, .int (0))]) dX11_carries_75 rfl (by decide) rfl ?_
          refine g_iload_n (pc' := 78) dX11_carries_77 rfl 3 rfl rfl ?_
          refine g_if_eq (pc' := 81) (tgt := 92) dX11_carries_78 rfl (by decide) (fun _ => ?_) (fun z => absurd z (by decide))
          refine g_ldc2 (pc' := 95) dX11_carries_92 rfl kX11_134 ?_
          refine g_aload_n (pc' := 96) dX11_carries_95 rfl 1 rfl rfl ?_
          refine g_getL (pc' := 99) dX11_carries_96 rfl (PLk.lf fX11_61) o159 rfl ?_
          refine g_lmul (pc' := 100) dX11_carries_99 rfl ?_
          refine g_lstore (pc' := 102) (j := 6) (lv' := [(6, .long (2 * (σ.2 159 12))), (4, .long ((σ.2 159 14) - (σ.2 159 11))), (0, .ref (b + 159)), (1, .long (r)), (3, .int (0))]) dX11_carries_100 rfl (by decide) rfl ?_
          refine g_lload (pc' := 104) dX11_carries_102 rfl 1 rfl ?_
          refine g_lload (pc' := 106) dX11_carries_104 rfl 0 rfl ?_
          refine g_lload_n (pc' := 107) dX11_carries_106 rfl 3 rfl rfl ?_
          refine (Classical.em (rX11_far (2 * (σ.2 159 12)) σ = 0)).elim (fun g9 => absurd h (by rw [caF, if_neg c1, if_pos c2, if_pos g9]; exact fun z => nomatch z)) (fun (g8 : ¬ rX11_far (2 * (σ.2 159 12)) σ = 0) => ?_)
          refine g_callsr (pc' := 110) dX11_carries_107 rfl mX11_136 (ev_X11_part (x1 := (σ.2 159 14) - (σ.2 159 11)) (x2 := 2 * (σ.2 159 12)) (x3 := r) (σ := σ) g8 (d := d)) (rm_ok (by omega) (by decide)) ⟨rfl, rfl⟩ ⟨Nat.zero_le _, Nat.zero_le _⟩ rfl rfl (Nat.le_of_ble_eq_true rfl) ?_
          refine g_lstore (pc' := 112) (j := 8) (lv' := [(8, .long (rX11_part ((σ.2 159 14) - (σ.2 159 11)) (2 * (σ.2 159 12)) r σ)), (6, .long (2 * (σ.2 159 12))), (4, .long ((σ.2 159 14) - (σ.2 159 11))), (0, .ref (b + 159)), (1, .long (r)), (3, .int (0))]) dX11_carries_110 rfl (by decide) rfl ?_
          refine g_iload_n (pc' := 113) dX11_carries_112 rfl 5 rfl rfl ?_
          refine g_if_eq (pc' := 116) (tgt := 179) dX11_carries_113 rfl (by decide) (fun _ => ?_) (fun z => absurd z (by decide))
          refine g_aload_n (pc' := 180) dX11_carries_179 rfl 3 rfl rfl ?_
          refine g_aload_n (pc' := 181) dX11_carries_180 rfl 3 rfl rfl ?_
          refine g_getL (pc' := 184) dX11_carries_181 rfl (PLk.lf fX11_57) o159 rfl ?_
          refine g_aload_n (pc' := 185) dX11_carries_184 rfl 3 rfl rfl ?_
          refine g_getL (pc' := 188) dX11_carries_185 rfl (PLk.lf fX11_61) o159 rfl ?_
          refine g_lload (pc' := 190) dX11_carries_188 rfl 0 rfl ?_
          refine g_lmul (pc' := 191) dX11_carries_190 rfl ?_
          refine g_ladd (pc' := 192) dX11_carries_191 rfl ?_
          refine g_aload_n (pc' := 193) dX11_carries_192 rfl 3 rfl rfl ?_
          refine g_getL (pc' := 196) dX11_carries_193 rfl (PLk.lf fX11_61) o159 rfl ?_
          refine g_aload_n (pc' := 197) dX11_carries_196 rfl 3 rfl rfl ?_
          refine g_getL (pc' := 200) dX11_carries_197 rfl (PLk.lf fX11_64) o159 rfl ?_
          refine g_aload_n (pc' := 201) dX11_carries_200 rfl 3 rfl rfl ?_
          refine g_getL (pc' := 204) dX11_carries_201 rfl (PLk.lf fX11_67) o159 rfl ?_
          refine g_lload (pc' := 206) dX11_carries_204 rfl 0 rfl ?_
          refine g_lmul (pc' := 207) dX11_carries_206 rfl ?_
          refine g_ladd (pc' := 208) dX11_carries_207 rfl ?_
          refine g_lload (pc' := 210) dX11_carries_208 rfl 0 rfl ?_
          refine g_aload_n (pc' := 211) dX11_carries_210 rfl 3 rfl rfl ?_
          refine g_getL (pc' := 214) dX11_carries_211 rfl (PLk.lf fX11_57) o159 rfl ?_
          refine g_aload_n (pc' := 215) dX11_carries_214 rfl 3 rfl rfl ?_
          refine g_getL (pc' := 218) dX11_carries_215 rfl (PLk.lf fX11_61) o159 rfl ?_
          refine g_lload (pc' := 220) dX11_carries_218 rfl 0 rfl ?_
          refine g_lmul (pc' := 221) dX11_carries_220 rfl ?_
          refine g_ladd (pc' := 222) dX11_carries_221 rfl ?_
          refine g_lmul (pc' := 223) dX11_carries_222 rfl ?_
          refine g_lsub (pc' := 224) dX11_carries_223 rfl ?_
          refine g_aload_n (pc' := 225) dX11_carries_224 rfl 3 rfl rfl ?_
          refine g_getL (pc' := 228) dX11_carries_225 rfl (PLk.lf fX11_67) o159 rfl ?_
          refine g_lload (pc' := 230) dX11_carries_228 rfl 0 rfl ?_
          refine g_aload_n (pc' := 231) dX11_carries_230 rfl 3 rfl rfl ?_
          refine g_getL (pc' := 234) dX11_carries_231 rfl (PLk.lf fX11_61) o159 rfl ?_
          refine g_lmul (pc' := 235) dX11_carries_234 rfl ?_
          refine g_lsub (pc' := 236) dX11_carries_235 rfl ?_
          refine g_callv (pc' := 239) dX11_carries_236 rfl mX11_70 (ev_X11_takes (x1 := (σ.2 159 11) + ((σ.2 159 12) * (rX11_part ((σ.2 159 14) - (σ.2 159 11)) (2 * (σ.2 159 12)) r σ))) (x2 := σ.2 159 12) (x3 := ((σ.2 159 13) + ((σ.2 159 14) * (rX11_part ((σ.2 159 14) - (σ.2 159 11)) (2 * (σ.2 159 12)) r σ))) - ((rX11_part ((σ.2 159 14) - (σ.2 159 11)) (2 * (σ.2 159 12)) r σ) * ((σ.2 159 11) + ((σ.2 159 12) * (rX11_part ((σ.2 159 14) - (σ.2 159 11)) (2 * (σ.2 159 12)) r σ))))) (x4 := (σ.2 159 14) - ((rX11_part ((σ.2 159 14) - (σ.2 159 11)) (2 * (σ.2 159 12)) r σ) * (σ.2 159 12))) (σ := σ)  (d := d + 1)) o159 rfl (rm_ok (by omega) (by decide)) ⟨rfl, rfl⟩ ⟨Nat.zero_le _, Nat.zero_le _⟩ rfl rfl (Nat.le_of_ble_eq_true rfl) ?_
          refine g_iload_n (pc' := 240) dX11_carries_239 rfl 5 rfl rfl ?_
          refine g_if_ne (pc' := 243) (tgt := 247) dX11_carries_240 rfl (by decide) (fun z => absurd z (by decide)) (fun _ => ?_)
          refine g_iconst (pc' := 244) (v := 1) dX11_carries_243 rfl (by decide) ?_
          refine g_goto (tgt := 248) dX11_carries_244 (by decide) ?_
          refine g_istore_n (pc' := 249) (j := 3) (lv' := [(3, .int (1)), (8, .long (rX11_part ((σ.2 159 14) - (σ.2 159 11)) (2 * (σ.2 159 12)) r σ)), (6, .long (2 * (σ.2 159 12))), (4, .long ((σ.2 159 14) - (σ.2 159 11))), (0, .ref (b + 159)), (1, .long (r))]) dX11_carries_248 rfl rfl (by decide) rfl ?_
          refine g_goto (tgt := 19) dX11_carries_249 (by decide) ?_
          refine g_sub [4, 5, 0] rfl ?_
          exact ih true (sX11_takes ((σ.2 159 11) + ((σ.2 159 12) * (rX11_part ((σ.2 159 14) - (σ.2 159 11)) (2 * (σ.2 159 12)) r σ))) (σ.2 159 12) (((σ.2 159 13) + ((σ.2 159 14) * (rX11_part ((σ.2 159 14) - (σ.2 159 11)) (2 * (σ.2 159 12)) r σ))) - ((rX11_part ((σ.2 159 14) - (σ.2 159 11)) (2 * (σ.2 159 12)) r σ) * ((σ.2 159 11) + ((σ.2 159 12) * (rX11_part ((σ.2 159 14) - (σ.2 159 11)) (2 * (σ.2 159 12)) r σ))))) ((σ.2 159 14) - ((rX11_part ((σ.2 159 14) - (σ.2 159 11)) (2 * (σ.2 159 12)) r σ) * (σ.2 159 12))) σ) (by rw [caF, if_neg c1, if_pos c2, if_neg g8] at h; exact h)
      · refine g_iconst (pc' := 29) (v := 1) dX11_carries_28 rfl (by decide) ?_
        refine g_goto (tgt := 33) dX11_carries_29 (by decide) ?_
        refine g_aload_n (pc' := 34) dX11_carries_33 rfl 0 rfl rfl ?_
        refine g_getL (pc' := 37) dX11_carries_34 rfl (PLk.lf fX11_64) o159 rfl ?_
        refine g_lconst (pc' := 38) (v := 0) dX11_carries_37 rfl (by decide) ?_
        refine g_lif_ge (pc' := 42) (tgt := 46) dX11_carries_38 dX11_carries_39 rfl (by decide) (fun (c11 : ¬ (σ.2 159 13 : Int64) < 0) => ?_) (fun (c11 : (σ.2 159 13 : Int64) < 0) => ?_)
        · refine g_iconst (pc' := 47) (v := 0) dX11_carries_46 rfl (by decide) ?_
          refine g_icmp_eq (pc' := 50) (tgt := 252) dX11_carries_47 rfl (by decide) (fun z => absurd z (by decide)) (fun _ => ?_)
          refine g_iload_n (pc' := 51) dX11_carries_50 rfl 2 rfl rfl ?_
          refine g_if_eq (pc' := 54) (tgt := 66) dX11_carries_51 rfl (by decide) (fun _ => ?_) (fun z => absurd z (by decide))
          refine g_aload_n (pc' := 67) dX11_carries_66 rfl 0 rfl rfl ?_
          refine g_getL (pc' := 70) dX11_carries_67 rfl (PLk.lf fX11_67) o159 rfl ?_
          refine g_aload_n (pc' := 71) dX11_carries_70 rfl 0 rfl rfl ?_
          refine g_getL (pc' := 74) dX11_carries_71 rfl (PLk.lf fX11_57) o159 rfl ?_
          refine g_lsub (pc' := 75) dX11_carries_74 rfl ?_
          refine g_lstore (pc' := 77) (j := 4) (lv' := [(4, .long ((σ.2 159 14) - (σ.2 159 11))), (0, .ref (b + 159)), (1, .long (r)), (3, .int (0))]) dX11_carries_75 rfl (by decide) rfl ?_
          refine g_iload_n (pc' := 78) dX11_carries_77 rfl 3 rfl rfl ?_
          refine g_if_eq (pc' := 81) (tgt := 92) dX11_carries_78 rfl (by decide) (fun _ => ?_) (fun z => absurd z (by decide))
          refine g_ldc2 (pc' := 95) dX11_carries_92 rfl kX11_134 ?_
          refine g_aload_n (pc' := 96) dX11_carries_95 rfl 1 rfl rfl ?_
          refine g_getL (pc' := 99) dX11_carries_96 rfl (PLk.lf fX11_61) o159 rfl ?_
          refine g_lmul (pc' := 100) dX11_carries_99 rfl ?_
          refine g_lstore (pc' := 102) (j := 6) (lv' := [(6, .long (2 * (σ.2 159 12))), (4, .long ((σ.2 159 14) - (σ.2 159 11))), (0, .ref (b + 159)), (1, .long (r)), (3, .int (0))]) dX11_carries_100 rfl (by decide) rfl ?_
          refine g_lload (pc' := 104) dX11_carries_102 rfl 1 rfl ?_
          refine g_lload (pc' := 106) dX11_carries_104 rfl 0 rfl ?_
          refine g_lload_n (pc' := 107) dX11_carries_106 rfl 3 rfl rfl ?_
          refine (Classical.em (rX11_far (2 * (σ.2 159 12)) σ = 0)).elim (fun g9 => absurd h (by rw [caF, if_pos c1, if_neg c11, if_pos g9]; exact fun z => nomatch z)) (fun (g15 : ¬ rX11_far (2 * (σ.2 159 12)) σ = 0) => ?_)
          refine g_callsr (pc' := 110) dX11_carries_107 rfl mX11_136 (ev_X11_part (x1 := (σ.2 159 14) - (σ.2 159 11)) (x2 := 2 * (σ.2 159 12)) (x3 := r) (σ := σ) g15 (d := d)) (rm_ok (by omega) (by decide)) ⟨rfl, rfl⟩ ⟨Nat.zero_le _, Nat.zero_le _⟩ rfl rfl (Nat.le_of_ble_eq_true rfl) ?_
          refine g_lstore (pc' := 112) (j := 8) (lv' := [(8, .long (rX11_part ((σ.2 159 14) - (σ.2 159 11)) (2 * (σ.2 159 12)) r σ)), (6, .long (2 * (σ.2 159 12))), (4, .long ((σ.2 159 14) - (σ.2 159 11))), (0, .ref (b + 159)), (1, .long (r)), (3, .int (0))]) dX11_carries_110 rfl (by decide) rfl ?_
          refine g_iload_n (pc' := 113) dX11_carries_112 rfl 5 rfl rfl ?_
          refine g_if_eq (pc' := 116) (tgt := 179) dX11_carries_113 rfl (by decide) (fun _ => ?_) (fun z => absurd z (by decide))
          refine g_aload_n (pc' := 180) dX11_carries_179 rfl 3 rfl rfl ?_
          refine g_aload_n (pc' := 181) dX11_carries_180 rfl 3 rfl rfl ?_
          refine g_getL (pc' := 184) dX11_carries_181 rfl (PLk.lf fX11_57) o159 rfl ?_
          refine g_aload_n (pc' := 185) dX11_carries_184 rfl 3 rfl rfl ?_
          refine g_getL (pc' := 188) dX11_carries_185 rfl (PLk.lf fX11_61) o159 rfl ?_
          refine g_lload (pc' := 190) dX11_carries_188 rfl 0 rfl ?_
          refine g_lmul (pc' := 191) dX11_carries_190 rfl ?_
          refine g_ladd (pc' := 192) dX11_carries_191 rfl ?_
          refine g_aload_n (pc' := 193) dX11_carries_192 rfl 3 rfl rfl ?_
          refine g_getL (pc' := 196) dX11_carries_193 rfl (PLk.lf fX11_61) o159 rfl ?_
          refine g_aload_n (pc' := 197) dX11_carries_196 rfl 3 rfl rfl ?_
          refine g_getL (pc' := 200) dX11_carries_197 rfl (PLk.lf fX11_64) o159 rfl ?_
          refine g_aload_n (pc' := 201) dX11_carries_200 rfl 3 rfl rfl ?_
          refine g_getL (pc' := 204) dX11_carries_201 rfl (PLk.lf fX11_67) o159 rfl ?_
          refine g_lload (pc' := 206) dX11_carries_204 rfl 0 rfl ?_
          refine g_lmul (pc' := 207) dX11_carries_206 rfl ?_
          refine g_ladd (pc' := 208) dX11_carries_207 rfl ?_
          refine g_lload (pc' := 210) dX11_carries_208 rfl 0 rfl ?_
          refine g_aload_n (pc' := 211) dX11_carries_210 rfl 3 rfl rfl ?_
          refine g_getL (pc' := 214) dX11_carries_211 rfl (PLk.lf fX11_57) o159 rfl ?_
          refine g_aload_n (pc' := 215) dX11_carries_214 rfl 3 rfl rfl ?_
          refine g_getL (pc' := 218) dX11_carries_215 rfl (PLk.lf fX11_61) o159 rfl ?_
          refine g_lload (pc' := 220) dX11_carries_218 rfl 0 rfl ?_
          refine g_lmul (pc' := 221) dX11_carries_220 rfl ?_
          refine g_ladd (pc' := 222) dX11_carries_221 rfl ?_
          refine g_lmul (pc' := 223) dX11_carries_222 rfl ?_
          refine g_lsub (pc' := 224) dX11_carries_223 rfl ?_
          refine g_aload_n (pc' := 225) dX11_carries_224 rfl 3 rfl rfl ?_
          refine g_getL (pc' := 228) dX11_carries_225 rfl (PLk.lf fX11_67) o159 rfl ?_
          refine g_lload (pc' := 230) dX11_carries_228 rfl 0 rfl ?_
          refine g_aload_n (pc' := 231) dX11_carries_230 rfl 3 rfl rfl ?_
          refine g_getL (pc' := 234) dX11_carries_231 rfl (PLk.lf fX11_61) o159 rfl ?_
          refine g_lmul (pc' := 235) dX11_carries_234 rfl ?_
          refine g_lsub (pc' := 236) dX11_carries_235 rfl ?_
          refine g_callv (pc' := 239) dX11_carries_236 rfl mX11_70 (ev_X11_takes (x1 := (σ.2 159 11) + ((σ.2 159 12) * (rX11_part ((σ.2 159 14) - (σ.2 159 11)) (2 * (σ.2 159 12)) r σ))) (x2 := σ.2 159 12) (x3 := ((σ.2 159 13) + ((σ.2 159 14) * (rX11_part ((σ.2 159 14) - (σ.2 159 11)) (2 * (σ.2 159 12)) r σ))) - ((rX11_part ((σ.2 159 14) - (σ.2 159 11)) (2 * (σ.2 159 12)) r σ) * ((σ.2 159 11) + ((σ.2 159 12) * (rX11_part ((σ.2 159 14) - (σ.2 159 11)) (2 * (σ.2 159 12)) r σ))))) (x4 := (σ.2 159 14) - ((rX11_part ((σ.2 159 14) - (σ.2 159 11)) (2 * (σ.2 159 12)) r σ) * (σ.2 159 12))) (σ := σ)  (d := d + 1)) o159 rfl (rm_ok (by omega) (by decide)) ⟨rfl, rfl⟩ ⟨Nat.zero_le _, Nat.zero_le _⟩ rfl rfl (Nat.le_of_ble_eq_true rfl) ?_
          refine g_iload_n (pc' := 240) dX11_carries_239 rfl 5 rfl rfl ?_
          refine g_if_ne (pc' := 243) (tgt := 247) dX11_carries_240 rfl (by decide) (fun z => absurd z (by decide)) (fun _ => ?_)
          refine g_iconst (pc' := 244) (v := 1) dX11_carries_243 rfl (by decide) ?_
          refine g_goto (tgt := 248) dX11_carries_244 (by decide) ?_
          refine g_istore_n (pc' := 249) (j := 3) (lv' := [(3, .int (1)), (8, .long (rX11_part ((σ.2 159 14) - (σ.2 159 11)) (2 * (σ.2 159 12)) r σ)), (6, .long (2 * (σ.2 159 12))), (4, .long ((σ.2 159 14) - (σ.2 159 11))), (0, .ref (b + 159)), (1, .long (r))]) dX11_carries_248 rfl rfl (by decide) rfl ?_
          refine g_goto (tgt := 19) dX11_carries_249 (by decide) ?_
          refine g_sub [4, 5, 0] rfl ?_
          exact ih true (sX11_takes ((σ.2 159 11) + ((σ.2 159 12) * (rX11_part ((σ.2 159 14) - (σ.2 159 11)) (2 * (σ.2 159 12)) r σ))) (σ.2 159 12) (((σ.2 159 13) + ((σ.2 159 14) * (rX11_part ((σ.2 159 14) - (σ.2 159 11)) (2 * (σ.2 159 12)) r σ))) - ((rX11_part ((σ.2 159 14) - (σ.2 159 11)) (2 * (σ.2 159 12)) r σ) * ((σ.2 159 11) + ((σ.2 159 12) * (rX11_part ((σ.2 159 14) - (σ.2 159 11)) (2 * (σ.2 159 12)) r σ))))) ((σ.2 159 14) - ((rX11_part ((σ.2 159 14) - (σ.2 159 11)) (2 * (σ.2 159 12)) r σ) * (σ.2 159 12))) σ) (by rw [caF, if_pos c1, if_neg c11, if_neg g15] at h; exact h)
        · refine g_iconst (pc' := 43) (v := 1) dX11_carries_42 rfl (by decide) ?_
          refine g_goto (tgt := 47) dX11_carries_43 (by decide) ?_
          refine g_icmp_eq (pc' := 50) (tgt := 252) dX11_carries_47 rfl (by decide) (fun _ => ?_) (fun z => absurd z (by decide))
          refine g_aload_n (pc' := 253) dX11_carries_252 rfl 0 rfl rfl ?_
          refine g_getL (pc' := 256) dX11_carries_253 rfl (PLk.lf fX11_61) o159 rfl ?_
          refine g_lconst (pc' := 257) (v := 0) dX11_carries_256 rfl (by decide) ?_
          refine g_lif_ge (pc' := 261) (tgt := 285) dX11_carries_257 dX11_carries_258 rfl (by decide) (fun z => absurd c1 z) (fun _ => ?_)
          refine g_aload_n (pc' := 262) dX11_carries_261 rfl 0 rfl rfl ?_
          refine g_aload_n (pc' := 263) dX11_carries_262 rfl 0 rfl rfl ?_
          refine g_getL (pc' := 266) dX11_carries_263 rfl (PLk.lf fX11_67) o159 rfl ?_
          refine g_lconst (pc' := 267) (v := 0) dX11_carries_266 rfl (by decide) ?_
          refine g_aload_n (pc' := 268) dX11_carries_267 rfl 0 rfl rfl ?_
          refine g_getL (pc' := 271) dX11_carries_268 rfl (PLk.lf fX11_64) o159 rfl ?_
          refine g_lsub (pc' := 272) dX11_carries_271 rfl ?_
          refine g_lconst (pc' := 273) (v := 0) dX11_carries_272 rfl (by decide) ?_
          refine g_aload_n (pc' := 274) dX11_carries_273 rfl 0 rfl rfl ?_
          refine g_getL (pc' := 277) dX11_carries_274 rfl (PLk.lf fX11_61) o159 rfl ?_
          refine g_lsub (pc' := 278) dX11_carries_277 rfl ?_
          refine g_aload_n (pc' := 279) dX11_carries_278 rfl 0 rfl rfl ?_
          refine g_getL (pc' := 282) dX11_carries_279 rfl (PLk.lf fX11_57) o159 rfl ?_
          refine g_callv (pc' := 285) dX11_carries_282 rfl mX11_70 (ev_X11_takes (x1 := σ.2 159 14) (x2 := 0 - (σ.2 159 13)) (x3 := 0 - (σ.2 159 12)) (x4 := σ.2 159 11) (σ := σ)  (d := d + 1)) o159 rfl (rm_ok (by omega) (by decide)) ⟨rfl, rfl⟩ ⟨Nat.zero_le _, Nat.zero_le _⟩ rfl rfl (Nat.le_of_ble_eq_true rfl) ?_
          exact g_vret dX11_carries_285 rfl ⟨rfl, rfl⟩ (by rw [caF, if_pos c1, if_pos c11] at h; rw [← Option.some.inj h])
def N0 : Nat := 10000000
def caT (σ : Sg) : Sg := (caF (rtF (σ.2 159 16 * σ.2 159 16 - 4) 22 0) N0 true σ).getD σ
def CaOk (σ : Sg) : Prop := (caF (rtF (σ.2 159 16 * σ.2 159 16 - 4) 22 0) N0 true σ).isSome = true
theorem getD_some {α : Type} {o : Option α} {x : α} (h : o.isSome = true) : o = some (o.getD x) := by
  cases o with
  | none => cases h
  | some v => rfl
set_option maxRecDepth 100000 in
set_option maxHeartbeats 4000000 in
theorem ev_X11_carries {l : Launch} {b : Nat} {cy : Nat → ClassId} {D : va_G} {d : Nat}    {σ : Sg}  (hT : CaOk σ) : Es l b cy D (d + 2) yX11_carries cX11_carries (Option.none : Option Jvm.ClassFile.FieldType) 10 [.ref (b + 159)] σ none (caT σ) := by
  refine Ev.of (by decide) (Nat.le_of_ble_eq_true rfl) rfl ?_
  refine g_aload_n (pc' := 1) dX11_carries_0 rfl 0 rfl rfl ?_
  refine g_getL (pc' := 4) dX11_carries_1 rfl (PLk.lf fX11_126) o159 rfl ?_
  refine g_aload_n (pc' := 5) dX11_carries_4 rfl 0 rfl rfl ?_
  refine g_getL (pc' := 8) dX11_carries_5 rfl (PLk.lf fX11_126) o159 rfl ?_
  refine g_lmul (pc' := 9) dX11_carries_8 rfl ?_
  refine g_ldc2 (pc' := 12) dX11_carries_9 rfl kX11_129 ?_
  refine g_lsub (pc' := 13) dX11_carries_12 rfl ?_
  refine g_callsr (pc' := 16) dX11_carries_13 rfl mX11_131 (ev_X11_root (x1 := ((σ.2 159 16) * (σ.2 159 16)) - 4) (σ := σ)  (d := d + 1)) (rm_ok (by omega) (by decide)) ⟨rfl, rfl⟩ ⟨Nat.zero_le _, Nat.zero_le _⟩ rfl rfl (Nat.le_of_ble_eq_true rfl) ?_
  refine g_lstore_n (pc' := 17) (j := 1) (lv' := [(1, .long (rtF (((σ.2 159 16) * (σ.2 159 16)) - 4) 22 0)), (0, .ref (b + 159))]) dX11_carries_16 rfl rfl (by decide) rfl ?_
  refine g_iconst (pc' := 18) (v := 1) dX11_carries_17 rfl (by decide) ?_
  refine g_istore_n (pc' := 19) (j := 3) (lv' := [(3, .int (1)), (1, .long (rtF (((σ.2 159 16) * (σ.2 159 16)) - 4) 22 0)), (0, .ref (b + 159))]) dX11_carries_18 rfl rfl (by decide) rfl ?_
  refine g_sub [2, 1, 0] rfl ?_
  exact lp_ca N0 true σ (getD_some hT)
