theorem i1m {n : Nat} (h : 1 ≤ n) : nI n - 1 = nI (n - 1) := by rw [show (1 : Int32) = nI 1 from rfl, pk_sub h]
def tuA (n : Nat) (σ : Sg) : Int64 × Nat × Sg := if (σ.1 167 0 : Int32) = (σ.1 167 (n - 1)) then if ((u2 σ.1 166 (n - 1) ((σ.1 166 (n - 1)) + (σ.1 166 0))) 167 1 : Int32) = 1 then (((σ.1 166 0 : Int32).toInt64) + (((u2 σ.1 166 (n - 1) ((σ.1 166 (n - 1)) + (σ.1 166 0))) 166 1 : Int32).toInt64), 2, (u2 (u2 (u2 (u2 σ.1 166 (n - 1) ((σ.1 166 (n - 1)) + (σ.1 166 0))) 166 n ((u2 σ.1 166 (n - 1) ((σ.1 166 (n - 1)) + (σ.1 166 0))) 166 1)) 167 n 1) 159 19 (((u2 (u2 (u2 σ.1 166 (n - 1) ((σ.1 166 (n - 1)) + (σ.1 166 0))) 166 n ((u2 σ.1 166 (n - 1) ((σ.1 166 (n - 1)) + (σ.1 166 0))) 166 1)) 167 n 1) 159 19) + 1), σ.2)) else ((σ.1 166 0 : Int32).toInt64, 1, (u2 σ.1 166 (n - 1) ((σ.1 166 (n - 1)) + (σ.1 166 0)), σ.2)) else if (σ.1 167 0 : Int32) = 1 then (0 + ((σ.1 166 0 : Int32).toInt64), 1, (u2 (u2 (u2 σ.1 166 n (σ.1 166 0)) 167 n 1) 159 19 (((u2 (u2 σ.1 166 n (σ.1 166 0)) 167 n 1) 159 19) + 1), σ.2)) else (0, 0, σ)
set_option maxRecDepth 100000 in
set_option maxHeartbeats 4000000 in
theorem tu_a {l : Launch} {b : Nat} {cy : Nat → ClassId} {D : va_G} {d : Nat} {σ τ : Sg} {n : Nat} (hc : σ.1 159 19 = nI n) (h2 : 2 ≤ n) (hn : n ≤ 62) (k : Gs l b cy D (d + 1) yX11_turns cX11_turns (Option.none : Option Jvm.ClassFile.FieldType) 10 none τ 116 [(0, .ref (b + 159)), (1, .long (tuA n σ).1), (3, .int (nI (tuA n σ).2.1))] [] (tuA n σ).2.2) : Gs l b cy D (d + 1) yX11_turns cX11_turns (Option.none : Option Jvm.ClassFile.FieldType) 10 none τ 0 [(0, .ref (b + 159))] [] σ := by
  refine g_lconst (pc' := 1) (v := 0) dX11_turns_0 rfl (by decide) ?_
  refine g_lstore_n (pc' := 2) (j := 1) (lv' := [(1, .long (0)), (0, .ref (b + 159))]) dX11_turns_1 rfl rfl (by decide) rfl ?_
  refine g_iconst (pc' := 3) (v := 0) dX11_turns_2 rfl (by decide) ?_
  refine g_istore_n (pc' := 4) (j := 3) (lv' := [(3, .int (0)), (1, .long (0)), (0, .ref (b + 159))]) dX11_turns_3 rfl rfl (by decide) rfl ?_
  refine g_aload_n (pc' := 5) dX11_turns_4 rfl 2 rfl rfl ?_
  refine g_getR (pc' := 8) (a := 167) dX11_turns_5 rfl (PLk.lf fX11_36) o159 rfl ?_
  refine g_iconst (pc' := 9) (v := 0) dX11_turns_8 rfl (by decide) ?_
  refine g_iald (pc' := 10) (j := 0) dX11_turns_9 rfl o167 (by decide) (by decide) (by omega) ?_
  refine g_aload_n (pc' := 11) dX11_turns_10 rfl 2 rfl rfl ?_
  refine g_getR (pc' := 14) (a := 167) dX11_turns_11 rfl (PLk.lf fX11_36) o159 rfl ?_
  refine g_aload_n (pc' := 15) dX11_turns_14 rfl 2 rfl rfl ?_
  refine g_getI (pc' := 18) dX11_turns_15 rfl (PLk.lf fX11_140) o159 rfl ?_
  refine g_iconst (pc' := 19) (v := 1) dX11_turns_18 rfl (by decide) ?_
  refine g_isub (pc' := 20) dX11_turns_19 rfl ?_
  refine g_iald (pc' := 21) (j := (n - 1)) dX11_turns_20 rfl o167 (by decide) (by (try dsimp only); (try rw [u2_k (by decide)]); rw [hc]; exact i1m (by omega)) (by omega) ?_
  refine g_icmp_ne (pc' := 24) (tgt := 54) dX11_turns_21 rfl (by decide) (fun (c1 : ¬ (σ.1 167 0 : Int32) = (σ.1 167 (n - 1))) => ?_) (fun (c1 : (σ.1 167 0 : Int32) = (σ.1 167 (n - 1))) => ?_)
  · refine g_aload_n (pc' := 55) dX11_turns_54 rfl 2 rfl rfl ?_
    refine g_getR (pc' := 58) (a := 167) dX11_turns_55 rfl (PLk.lf fX11_36) o159 rfl ?_
    refine g_iload_n (pc' := 59) dX11_turns_58 rfl 0 rfl rfl ?_
    refine g_iald (pc' := 60) (j := 0) dX11_turns_59 rfl o167 (by decide) (by decide) (by omega) ?_
    refine g_iconst (pc' := 61) (v := 1) dX11_turns_60 rfl (by decide) ?_
    refine g_icmp_ne (pc' := 64) (tgt := 116) dX11_turns_61 rfl (by decide) (fun (c2 : ¬ (σ.1 167 0 : Int32) = 1) => ?_) (fun (c2 : (σ.1 167 0 : Int32) = 1) => ?_)
    · rw [show tuA n σ = (0, 0, σ) by unfold tuA; rw [if_neg c1, if_neg c2]] at k
      refine g_sub [2, 1, 0] rfl ?_
      exact k
    · refine g_lload_n (pc' := 65) dX11_turns_64 rfl 1 rfl rfl ?_
      refine g_aload_n (pc' := 66) dX11_turns_65 rfl 2 rfl rfl ?_
      refine g_getR (pc' := 69) (a := 166) dX11_turns_66 rfl (PLk.lf fX11_33) o159 rfl ?_
      refine g_iload_n (pc' := 70) dX11_turns_69 rfl 0 rfl rfl ?_
      refine g_iald (pc' := 71) (j := 0) dX11_turns_70 rfl o166 (by decide) (by decide) (by omega) ?_
      refine g_i2l (pc' := 72) dX11_turns_71 rfl ?_
      refine g_ladd (pc' := 73) dX11_turns_72 rfl ?_
      refine g_lstore_n (pc' := 74) (j := 1) (lv' := [(1, .long (0 + ((σ.1 166 0 : Int32).toInt64))), (3, .int (0)), (0, .ref (b + 159))]) dX11_turns_73 rfl rfl (by decide) rfl ?_
      refine g_aload_n (pc' := 75) dX11_turns_74 rfl 2 rfl rfl ?_
      refine g_getR (pc' := 78) (a := 166) dX11_turns_75 rfl (PLk.lf fX11_33) o159 rfl ?_
      refine g_iload_n (pc' := 79) dX11_turns_78 rfl 1 rfl rfl ?_
      refine g_iald (pc' := 80) (j := 0) dX11_turns_79 rfl o166 (by decide) (by decide) (by omega) ?_
      refine g_istore (pc' := 82) (j := 4) (lv' := [(4, .int (σ.1 166 0)), (1, .long (0 + ((σ.1 166 0 : Int32).toInt64))), (3, .int (0)), (0, .ref (b + 159))]) dX11_turns_80 rfl (by decide) rfl ?_
      refine g_aload_n (pc' := 83) dX11_turns_82 rfl 3 rfl rfl ?_
      refine g_getR (pc' := 86) (a := 166) dX11_turns_83 rfl (PLk.lf fX11_33) o159 rfl ?_
      refine g_aload_n (pc' := 87) dX11_turns_86 rfl 3 rfl rfl ?_
      refine g_getI (pc' := 90) dX11_turns_87 rfl (PLk.lf fX11_140) o159 rfl ?_
      refine g_iload (pc' := 92) dX11_turns_90 rfl 0 rfl ?_
      refine g_iast (pc' := 93) (j := n) dX11_turns_92 rfl (by decide) o166 (by decide) (by (try dsimp only); (try rw [u2_k (by decide)]); (try rw [u2_k (by decide)]); exact hc) (by omega) ?_
      refine g_aload_n (pc' := 94) dX11_turns_93 rfl 3 rfl rfl ?_
      refine g_getR (pc' := 97) (a := 167) dX11_turns_94 rfl (PLk.lf fX11_36) o159 rfl ?_
      refine g_aload_n (pc' := 98) dX11_turns_97 rfl 3 rfl rfl ?_
      refine g_getI (pc' := 101) dX11_turns_98 rfl (PLk.lf fX11_140) o159 rfl ?_
      refine g_iconst (pc' := 102) (v := 1) dX11_turns_101 rfl (by decide) ?_
      refine g_iast (pc' := 103) (j := n) dX11_turns_102 rfl (by decide) o167 (by decide) (by (try dsimp only); (try rw [u2_k (by decide)]); (try rw [u2_k (by decide)]); exact hc) (by omega) ?_
      refine g_aload_n (pc' := 104) dX11_turns_103 rfl 3 rfl rfl ?_
      refine g_dup (pc' := 105) dX11_turns_104 rfl rfl ?_
      refine g_getI (pc' := 108) dX11_turns_105 rfl (PLk.lf fX11_140) o159 rfl ?_
      refine g_iconst (pc' := 109) (v := 1) dX11_turns_108 rfl (by decide) ?_
      refine g_iadd (pc' := 110) dX11_turns_109 rfl ?_
      refine g_putI (pc' := 113) dX11_turns_110 rfl fX11_140 o159 rfl ?_
      refine g_iinc (pc' := 116) (v := 1) (lv' := [(3, .int (1)), (4, .int (σ.1 166 0)), (1, .long (0 + ((σ.1 166 0 : Int32).toInt64))), (0, .ref (b + 159))]) dX11_turns_113 rfl 2 rfl (by decide) (by decide) rfl ?_
      rw [show tuA n σ = (0 + ((σ.1 166 0 : Int32).toInt64), 1, (u2 (u2 (u2 σ.1 166 n (σ.1 166 0)) 167 n 1) 159 19 (((u2 (u2 σ.1 166 n (σ.1 166 0)) 167 n 1) 159 19) + 1), σ.2)) by unfold tuA; rw [if_neg c1, if_pos c2]] at k
      refine g_sub [3, 2, 0] rfl ?_
      exact k
  · refine g_aload_n (pc' := 25) dX11_turns_24 rfl 2 rfl rfl ?_
    refine g_getR (pc' := 28) (a := 166) dX11_turns_25 rfl (PLk.lf fX11_33) o159 rfl ?_
    refine g_iconst (pc' := 29) (v := 0) dX11_turns_28 rfl (by decide) ?_
    refine g_iald (pc' := 30) (j := 0) dX11_turns_29 rfl o166 (by decide) (by decide) (by omega) ?_
    refine g_i2l (pc' := 31) dX11_turns_30 rfl ?_
    refine g_lstore_n (pc' := 32) (j := 1) (lv' := [(1, .long ((σ.1 166 0 : Int32).toInt64)), (3, .int (0)), (0, .ref (b + 159))]) dX11_turns_31 rfl rfl (by decide) rfl ?_
    refine g_aload_n (pc' := 33) dX11_turns_32 rfl 2 rfl rfl ?_
    refine g_getR (pc' := 36) (a := 166) dX11_turns_33 rfl (PLk.lf fX11_33) o159 rfl ?_
    refine g_aload_n (pc' := 37) dX11_turns_36 rfl 2 rfl rfl ?_
    refine g_getI (pc' := 40) dX11_turns_37 rfl (PLk.lf fX11_140) o159 rfl ?_
    refine g_iconst (pc' := 41) (v := 1) dX11_turns_40 rfl (by decide) ?_
    refine g_isub (pc' := 42) dX11_turns_41 rfl ?_
    refine g_dup2 (pc' := 43) dX11_turns_42 rfl rfl rfl ?_
    refine g_iald (pc' := 44) (j := (n - 1)) dX11_turns_43 rfl o166 (by decide) (by (try dsimp only); (try rw [u2_k (by decide)]); rw [hc]; exact i1m (by omega)) (by omega) ?_
    refine g_aload_n (pc' := 45) dX11_turns_44 rfl 2 rfl rfl ?_
    refine g_getR (pc' := 48) (a := 166) dX11_turns_45 rfl (PLk.lf fX11_33) o159 rfl ?_
    refine g_iconst (pc' := 49) (v := 0) dX11_turns_48 rfl (by decide) ?_
    refine g_iald (pc' := 50) (j := 0) dX11_turns_49 rfl o166 (by decide) (by decide) (by omega) ?_
    refine g_iadd (pc' := 51) dX11_turns_50 rfl ?_
    refine g_iast (pc' := 52) (j := (n - 1)) dX11_turns_51 rfl (by decide) o166 (by decide) (by (try dsimp only); (try rw [u2_k (by decide)]); rw [hc]; exact i1m (by omega)) (by omega) ?_
    refine g_iconst (pc' := 53) (v := 1) dX11_turns_52 rfl (by decide) ?_
    refine g_istore_n (pc' := 54) (j := 3) (lv' := [(3, .int (1)), (1, .long ((σ.1 166 0 : Int32).toInt64)), (0, .ref (b + 159))]) dX11_turns_53 rfl rfl (by decide) rfl ?_
    refine g_aload_n (pc' := 55) dX11_turns_54 rfl 2 rfl rfl ?_
    refine g_getR (pc' := 58) (a := 167) dX11_turns_55 rfl (PLk.lf fX11_36) o159 rfl ?_
    refine g_iload_n (pc' := 59) dX11_turns_58 rfl 0 rfl rfl ?_
    refine g_iald (pc' := 60) (j := 1) dX11_turns_59 rfl o167 (by decide) (by decide) (by omega) ?_
    refine g_iconst (pc' := 61) (v := 1) dX11_turns_60 rfl (by decide) ?_
    refine g_icmp_ne (pc' := 64) (tgt := 116) dX11_turns_61 rfl (by decide) (fun (c3 : ¬ ((u2 σ.1 166 (n - 1) ((σ.1 166 (n - 1)) + (σ.1 166 0))) 167 1 : Int32) = 1) => ?_) (fun (c3 : ((u2 σ.1 166 (n - 1) ((σ.1 166 (n - 1)) + (σ.1 166 0))) 167 1 : Int32) = 1) => ?_)
    · rw [show tuA n σ = ((σ.1 166 0 : Int32).toInt64, 1, (u2 σ.1 166 (n - 1) ((σ.1 166 (n - 1)) + (σ.1 166 0)), σ.2)) by unfold tuA; rw [if_pos c1, if_neg c3]] at k
      refine g_sub [2, 1, 0] rfl ?_
      exact k
    · refine g_lload_n (pc' := 65) dX11_turns_64 rfl 1 rfl rfl ?_
      refine g_aload_n (pc' := 66) dX11_turns_65 rfl 2 rfl rfl ?_
      refine g_getR (pc' := 69) (a := 166) dX11_turns_66 rfl (PLk.lf fX11_33) o159 rfl ?_
      refine g_iload_n (pc' := 70) dX11_turns_69 rfl 0 rfl rfl ?_
      refine g_iald (pc' := 71) (j := 1) dX11_turns_70 rfl o166 (by decide) (by decide) (by omega) ?_
      refine g_i2l (pc' := 72) dX11_turns_71 rfl ?_
      refine g_ladd (pc' := 73) dX11_turns_72 rfl ?_
      refine g_lstore_n (pc' := 74) (j := 1) (lv' := [(1, .long (((σ.1 166 0 : Int32).toInt64) + (((u2 σ.1 166 (n - 1) ((σ.1 166 (n - 1)) + (σ.1 166 0))) 166 1 : Int32).toInt64))), (3, .int (1)), (0, .ref (b + 159))]) dX11_turns_73 rfl rfl (by decide) rfl ?_
      refine g_aload_n (pc' := 75) dX11_turns_74 rfl 2 rfl rfl ?_
      refine g_getR (pc' := 78) (a := 166) dX11_turns_75 rfl (PLk.lf fX11_33) o159 rfl ?_
      refine g_iload_n (pc' := 79) dX11_turns_78 rfl 1 rfl rfl ?_
      refine g_iald (pc' := 80) (j := 1) dX11_turns_79 rfl o166 (by decide) (by decide) (by omega) ?_
      refine g_istore (pc' := 82) (j := 4) (lv' := [(4, .int ((u2 σ.1 166 (n - 1) ((σ.1 166 (n - 1)) + (σ.1 166 0))) 166 1)), (1, .long (((σ.1 166 0 : Int32).toInt64) + (((u2 σ.1 166 (n - 1) ((σ.1 166 (n - 1)) + (σ.1 166 0))) 166 1 : Int32).toInt64))), (3, .int (1)), (0, .ref (b + 159))]) dX11_turns_80 rfl (by decide) rfl ?_
      refine g_aload_n (pc' := 83) dX11_turns_82 rfl 3 rfl rfl ?_
      refine g_getR (pc' := 86) (a := 166) dX11_turns_83 rfl (PLk.lf fX11_33) o159 rfl ?_
      refine g_aload_n (pc' := 87) dX11_turns_86 rfl 3 rfl rfl ?_
      refine g_getI (pc' := 90) dX11_turns_87 rfl (PLk.lf fX11_140) o159 rfl ?_
      refine g_iload (pc' := 92) dX11_turns_90 rfl 0 rfl ?_
      refine g_iast (pc' := 93) (j := n) dX11_turns_92 rfl (by decide) o166 (by decide) (by (try dsimp only); (try rw [u2_k (by decide)]); (try rw [u2_k (by decide)]); exact hc) (by omega) ?_
      refine g_aload_n (pc' := 94) dX11_turns_93 rfl 3 rfl rfl ?_
      refine g_getR (pc' := 97) (a := 167) dX11_turns_94 rfl (PLk.lf fX11_36) o159 rfl ?_
      refine g_aload_n (pc' := 98) dX11_turns_97 rfl 3 rfl rfl ?_
      refine g_getI (pc' := 101) dX11_turns_98 rfl (PLk.lf fX11_140) o159 rfl ?_
      refine g_iconst (pc' := 102) (v := 1) dX11_turns_101 rfl (by decide) ?_
      refine g_iast (pc' := 103) (j := n) dX11_turns_102 rfl (by decide) o167 (by decide) (by (try dsimp only); (try rw [u2_k (by decide)]); (try rw [u2_k (by decide)]); exact hc) (by omega) ?_
      refine g_aload_n (pc' := 104) dX11_turns_103 rfl 3 rfl rfl ?_
      refine g_dup (pc' := 105) dX11_turns_104 rfl rfl ?_
      refine g_getI (pc' := 108) dX11_turns_105 rfl (PLk.lf fX11_140) o159 rfl ?_
      refine g_iconst (pc' := 109) (v := 1) dX11_turns_108 rfl (by decide) ?_
      refine g_iadd (pc' := 110) dX11_turns_109 rfl ?_
      refine g_putI (pc' := 113) dX11_turns_110 rfl fX11_140 o159 rfl ?_
      refine g_iinc (pc' := 116) (v := 2) (lv' := [(3, .int (2)), (4, .int ((u2 σ.1 166 (n - 1) ((σ.1 166 (n - 1)) + (σ.1 166 0))) 166 1)), (1, .long (((σ.1 166 0 : Int32).toInt64) + (((u2 σ.1 166 (n - 1) ((σ.1 166 (n - 1)) + (σ.1 166 0))) 166 1 : Int32).toInt64))), (0, .ref (b + 159))]) dX11_turns_113 rfl 2 rfl (by decide) (by decide) rfl ?_
      rw [show tuA n σ = (((σ.1 166 0 : Int32).toInt64) + (((u2 σ.1 166 (n - 1) ((σ.1 166 (n - 1)) + (σ.1 166 0))) 166 1 : Int32).toInt64), 2, (u2 (u2 (u2 (u2 σ.1 166 (n - 1) ((σ.1 166 (n - 1)) + (σ.1 166 0))) 166 n ((u2 σ.1 166 (n - 1) ((σ.1 166 (n - 1)) + (σ.1 166 0))) 166 1)) 167 n 1) 159 19 (((u2 (u2 (u2 σ.1 166 (n - 1) ((σ.1 166 (n - 1)) + (σ.1 166 0))) 166 n ((u2 σ.1 166 (n - 1) ((σ.1 166 (n - 1)) + (σ.1 166 0))) 166 1)) 167 n 1) 159 19) + 1), σ.2)) by unfold tuA; rw [if_pos c1, if_pos c3]] at k
      refine g_sub [3, 2, 0] rfl ?_
      exact k
def tu4 (t n : Nat) : Nat → Nat → Sg → Sg
  | 0, _, σ => σ
  | m + 1, k, σ => tu4 t n m (k + 1) (u2 σ.1 166 k (σ.1 168 ((t + k) % n)), σ.2)
def tu3 (f : Nat → Int32) : Nat → Int64
  | 0 => 0
  | k + 1 => tu3 f k + (f k).toInt64
def tu2 (n : Nat) : Nat → Nat → Nat → Sg → Nat × Sg
  | 0, _, t, σ => (t, σ)
  | m + 1, k, t, σ => if k < n then tu2 n m (k + 2) (if lessF (σ.1 168) k t n n 0 = true then k else t) (u2 σ.1 159 20 (σ.1 159 20 + bI (likeF (σ.1 168) k n n 0 true)), σ.2) else (t, σ)
def tu1s (f k : Nat) (σ : Sg) : Sg := (u2 σ.1 168 k (σ.1 166 (f + k)), u2 σ.2 159 21 (σ.2 159 21 + (u2 σ.1 168 k (σ.1 166 (f + k)) 168 k).toInt64))
def tu1 (f : Nat) : Nat → Nat → Sg → Sg
  | 0, _, σ => σ
  | m + 1, k, σ => tu1 f m (k + 1) (tu1s f k σ)
def tuRound (σ : Sg) : Int64 := σ.2 159 21 / (σ.1 159 20).toInt64
def tuX (ah bk : Int64) (σ : Sg) : Int64 := (0 - ah) - bk
def tuBeg (ah bk : Int64) (σ : Sg) : Int64 := (tuX ah bk σ - tuX ah bk σ / tuRound σ * tuRound σ + tuRound σ) - (tuX ah bk σ - tuX ah bk σ / tuRound σ * tuRound σ + tuRound σ) / tuRound σ * tuRound σ
def tuE (ah : Int64) (t n : Nat) (σ : Sg) : Sg := tu4 t n n 0 (σ.1, u2 σ.2 159 22 (tuBeg ah (tu3 (σ.1 168) t) σ))
def TuG (σ : Sg) : Prop := ¬ (σ.1 159 20).toInt64 = 0 ∧ ¬ tuRound σ = 0
set_option maxRecDepth 100000 in
set_option maxHeartbeats 4000000 in
theorem lp_tu4 {l : Launch} {b : Nat} {cy : Nat → ClassId} {D : va_G} {d : Nat}   {n t : Nat}   (hn : n ≤ 62) (ht : t < 2 ^ 20) : ∀ (m : Nat) (k : Nat) (σ : Sg), k + m = n → σ.1 159 19 = nI n → Gs l b cy D (d + 1) yX11_turns cX11_turns (Option.none : Option Jvm.ClassFile.FieldType) 10 none (tu4 t n m k σ) 317 [(0, .ref (b + 159)), (4, .int (nI t)), (9, .int (nI k))] [] σ := by
  intro m
  induction m with
  | zero =>
    intro k σ hk hc
    refine g_iload (pc' := 319) dX11_turns_317 rfl 2 rfl ?_
    refine g_aload_n (pc' := 320) dX11_turns_319 rfl 0 rfl rfl ?_
    refine g_getI (pc' := 323) dX11_turns_320 rfl (PLk.lf fX11_140) o159 rfl ?_
    refine g_icmp_ge (pc' := 326) (tgt := 354) dX11_turns_323 rfl (by decide) (fun (c1 : (σ.1 159 19 : Int32) ≤ (nI k)) => ?_) (fun (c1 : ¬ (σ.1 159 19 : Int32) ≤ (nI k)) => ?_)
    · exact g_vret dX11_turns_354 rfl ⟨rfl, rfl⟩ rfl
    · exact absurd (by rw [hc]; exact (nI_leI (by omega) (by omega)).mpr (by omega)) c1
  | succ m ih =>
    intro k σ hk hc
    refine g_iload (pc' := 319) dX11_turns_317 rfl 2 rfl ?_
    refine g_aload_n (pc' := 320) dX11_turns_319 rfl 0 rfl rfl ?_
    refine g_getI (pc' := 323) dX11_turns_320 rfl (PLk.lf fX11_140) o159 rfl ?_
    refine g_icmp_ge (pc' := 326) (tgt := 354) dX11_turns_323 rfl (by decide) (fun (c1 : (σ.1 159 19 : Int32) ≤ (nI k)) => ?_) (fun (c1 : ¬ (σ.1 159 19 : Int32) ≤ (nI k)) => ?_)
    · exact absurd (nle (a := n) (c := k) c1 hc rfl (by omega) (by omega)) (by omega)
    · refine g_aload_n (pc' := 327) dX11_turns_326 rfl 0 rfl rfl ?_
      refine g_getR (pc' := 330) (a := 166) dX11_turns_327 rfl (PLk.lf fX11_33) o159 rfl ?_
      refine g_iload (pc' := 332) dX11_turns_330 rfl 2 rfl ?_
      refine g_aload_n (pc' := 333) dX11_turns_332 rfl 0 rfl rfl ?_
      refine g_getR (pc' := 336) (a := 168) dX11_turns_333 rfl (PLk.lf fX11_39) o159 rfl ?_
      refine g_iload (pc' := 338) dX11_turns_336 rfl 1 rfl ?_
      refine g_iload (pc' := 340) dX11_turns_338 rfl 2 rfl ?_
      refine g_iadd (pc' := 341) dX11_turns_340 rfl ?_
      refine g_aload_n (pc' := 342) dX11_turns_341 rfl 0 rfl rfl ?_
      refine g_getI (pc' := 345) dX11_turns_342 rfl (PLk.lf fX11_140) o159 rfl ?_
      refine g_irem (pc' := 346) dX11_turns_345 rfl (by rw [hc]; exact nI_ne0 (by omega) (by omega)) ?_
      refine g_iald (pc' := 347) (j := ((t + k) % n)) dX11_turns_346 rfl o168 (by decide) (by rw [hc]; exact remI (by omega) (by omega) (by omega)) (Nat.lt_of_lt_of_le (Nat.mod_lt _ (by omega)) (by omega)) ?_
      refine g_iast (pc' := 348) (j := k) dX11_turns_347 rfl (by decide) o166 (by decide) rfl (by omega) ?_
      refine g_iinc (pc' := 351) (v := nI (k + 1)) (lv' := [(9, .int (nI (k + 1))), (0, .ref (b + 159)), (4, .int (nI t))]) dX11_turns_348 rfl 2 rfl (nI_1 k) (by decide) rfl ?_
      refine g_goto (tgt := 317) dX11_turns_351 (by decide) ?_
      refine g_sub [1, 2, 0] rfl ?_
      exact ih (k + 1) _ (by omega) (by dsimp only; rw [u2_k (by decide)]; exact hc)
set_option maxRecDepth 100000 in
set_option maxHeartbeats 4000000 in
theorem tu_283 {l : Launch} {b : Nat} {cy : Nat → ClassId} {D : va_G} {d : Nat} {σ : Sg} {n t : Nat} {ah bk : Int64} (hc : σ.1 159 19 = nI n) (hn : n ≤ 62) (ht : t < 2 ^ 20) (g : TuG σ) : Gs l b cy D (d + 1) yX11_turns cX11_turns (Option.none : Option Jvm.ClassFile.FieldType) 10 none (tu4 t n n 0 (σ.1, u2 σ.2 159 22 (tuBeg ah bk σ))) 283 [(0, .ref (b + 159)), (1, .long (ah)), (4, .int (nI t)), (5, .long (bk))] [] σ := by
  refine g_aload_n (pc' := 284) dX11_turns_283 rfl 0 rfl rfl ?_
  refine g_getL (pc' := 287) dX11_turns_284 rfl (PLk.lf fX11_143) o159 rfl ?_
  refine g_aload_n (pc' := 288) dX11_turns_287 rfl 0 rfl rfl ?_
  refine g_getI (pc' := 291) dX11_turns_288 rfl (PLk.lf fX11_146) o159 rfl ?_
  refine g_i2l (pc' := 292) dX11_turns_291 rfl ?_
  refine g_ldiv (pc' := 293) dX11_turns_292 rfl g.1 ?_
  refine g_lstore (pc' := 295) (j := 7) (lv' := [(7, .long ((σ.2 159 21) / ((σ.1 159 20 : Int32).toInt64))), (0, .ref (b + 159)), (1, .long (ah)), (4, .int (nI t)), (5, .long (bk))]) dX11_turns_293 rfl (by decide) rfl ?_
  refine g_aload_n (pc' := 296) dX11_turns_295 rfl 1 rfl rfl ?_
  refine g_lconst (pc' := 297) (v := 0) dX11_turns_296 rfl (by decide) ?_
  refine g_lload_n (pc' := 298) dX11_turns_297 rfl 2 rfl rfl ?_
  refine g_lsub (pc' := 299) dX11_turns_298 rfl ?_
  refine g_lload (pc' := 301) dX11_turns_299 rfl 4 rfl ?_
  refine g_lsub (pc' := 302) dX11_turns_301 rfl ?_
  refine g_lload (pc' := 304) dX11_turns_302 rfl 0 rfl ?_
  refine g_lrem (pc' := 305) dX11_turns_304 rfl g.2 ?_
  refine g_lload (pc' := 307) dX11_turns_305 rfl 0 rfl ?_
  refine g_ladd (pc' := 308) dX11_turns_307 rfl ?_
  refine g_lload (pc' := 310) dX11_turns_308 rfl 0 rfl ?_
  refine g_lrem (pc' := 311) dX11_turns_310 rfl g.2 ?_
  refine g_putL (pc' := 314) dX11_turns_311 rfl fX11_157 o159 rfl ?_
  refine g_iconst (pc' := 315) (v := 0) dX11_turns_314 rfl (by decide) ?_
  refine g_istore (pc' := 317) (j := 9) (lv' := [(9, .int (0)), (7, .long ((σ.2 159 21) / ((σ.1 159 20 : Int32).toInt64))), (0, .ref (b + 159)), (1, .long (ah)), (4, .int (nI t)), (5, .long (bk))]) dX11_turns_315 rfl (by decide) rfl ?_
  refine g_sub [2, 4, 0] rfl ?_
  exact lp_tu4 hn ht n 0 _ (by omega) hc
set_option maxRecDepth 100000 in
set_option maxHeartbeats 4000000 in
theorem lp_tu3 {l : Launch} {b : Nat} {cy : Nat → ClassId} {D : va_G} {d : Nat}   {n t : Nat} {ah : Int64} {σ : Sg}  (hc : σ.1 159 19 = nI n) (hn : n ≤ 62) (ht : t < 64) (g : TuG σ) : ∀ (m : Nat) (k : Nat), k + m = t → Gs l b cy D (d + 1) yX11_turns cX11_turns (Option.none : Option Jvm.ClassFile.FieldType) 10 none (tuE ah t n σ) 257 [(0, .ref (b + 159)), (1, .long (ah)), (4, .int (nI t)), (5, .long (tu3 (σ.1 168) k)), (7, .int (nI k))] [] σ := by
  intro m
  induction m with
  | zero =>
    intro k hk
    refine g_iload (pc' := 259) dX11_turns_257 rfl 4 rfl ?_
    refine g_iload (pc' := 261) dX11_turns_259 rfl 2 rfl ?_
    refine g_icmp_ge (pc' := 264) (tgt := 283) dX11_turns_261 rfl (by decide) (fun (c1 : (nI t : Int32) ≤ (nI k)) => ?_) (fun (c1 : ¬ (nI t : Int32) ≤ (nI k)) => ?_)
    · have e : k = t := hk
      subst e
      refine g_sub [0, 1, 2, 3] rfl ?_
      exact tu_283 hc hn (by omega) g
    · exact absurd ((nI_leI (a := t) (b := k) (by omega) (by omega)).mpr (by omega)) c1
  | succ m ih =>
    intro k hk
    refine g_iload (pc' := 259) dX11_turns_257 rfl 4 rfl ?_
    refine g_iload (pc' := 261) dX11_turns_259 rfl 2 rfl ?_
    refine g_icmp_ge (pc' := 264) (tgt := 283) dX11_turns_261 rfl (by decide) (fun (c1 : (nI t : Int32) ≤ (nI k)) => ?_) (fun (c1 : ¬ (nI t : Int32) ≤ (nI k)) => ?_)
    · exact absurd (nle (a := t) (c := k) c1 rfl rfl (by omega) (by omega)) (by omega)
    · refine g_lload (pc' := 266) dX11_turns_264 rfl 3 rfl ?_
      refine g_aload_n (pc' := 267) dX11_turns_266 rfl 0 rfl rfl ?_
      refine g_getR (pc' := 270) (a := 168) dX11_turns_267 rfl (PLk.lf fX11_39) o159 rfl ?_
      refine g_iload (pc' := 272) dX11_turns_270 rfl 4 rfl ?_
      refine g_iald (pc' := 273) (j := k) dX11_turns_272 rfl o168 (by decide) rfl (by omega) ?_
      refine g_i2l (pc' := 274) dX11_turns_273 rfl ?_
      refine g_ladd (pc' := 275) dX11_turns_274 rfl ?_
      refine g_lstore (pc' := 277) (j := 5) (lv' := [(5, .long ((tu3 (σ.1 168) k) + ((σ.1 168 k : Int32).toInt64))), (0, .ref (b + 159)), (1, .long (ah)), (4, .int (nI t)), (7, .int (nI k))]) dX11_turns_275 rfl (by decide) rfl ?_
      refine g_iinc (pc' := 280) (v := nI (k + 1)) (lv' := [(7, .int (nI (k + 1))), (5, .long ((tu3 (σ.1 168) k) + ((σ.1 168 k : Int32).toInt64))), (0, .ref (b + 159)), (1, .long (ah)), (4, .int (nI t))]) dX11_turns_277 rfl 4 rfl (nI_1 k) (by decide) rfl ?_
      refine g_goto (tgt := 257) dX11_turns_280 (by decide) ?_
      refine g_sub [2, 3, 4, 1, 0] rfl ?_
      exact ih (k + 1) (by omega)
def TuG2 (n m k t : Nat) (σ : Sg) : Prop := TuG (tu2 n m k t σ).2
set_option maxRecDepth 100000 in
set_option maxHeartbeats 4000000 in
theorem lp_tu2 {l : Launch} {b : Nat} {cy : Nat → ClassId} {D : va_G} {d : Nat}   {n : Nat} {ah : Int64}   (hn : n ≤ 62) : ∀ (m : Nat) (k : Nat) (t : Nat) (σ : Sg), n ≤ k + 2 * m → k ≤ 64 → t < 64 → σ.1 159 19 = nI n → TuG (tu2 n m k t σ).2 → Gs l b cy D (d + 1) yX11_turns cX11_turns (Option.none : Option Jvm.ClassFile.FieldType) 10 none (tuE ah (tu2 n m k t σ).1 n (tu2 n m k t σ).2) 193 [(0, .ref (b + 159)), (1, .long (ah)), (4, .int (nI t)), (5, .int (nI k))] [] σ := by
  intro m
  induction m with
  | zero =>
    intro k t σ hm hk ht hc g
    refine g_iload (pc' := 195) dX11_turns_193 rfl 3 rfl ?_
    refine g_aload_n (pc' := 196) dX11_turns_195 rfl 0 rfl rfl ?_
    refine g_getI (pc' := 199) dX11_turns_196 rfl (PLk.lf fX11_140) o159 rfl ?_
    refine g_icmp_ge (pc' := 202) (tgt := 251) dX11_turns_199 rfl (by decide) (fun (c1 : (σ.1 159 19 : Int32) ≤ (nI k)) => ?_) (fun (c1 : ¬ (σ.1 159 19 : Int32) ≤ (nI k)) => ?_)
    · refine g_lconst (pc' := 252) (v := 0) dX11_turns_251 rfl (by decide) ?_
      refine g_lstore (pc' := 254) (j := 5) (lv' := [(5, .long (0)), (0, .ref (b + 159)), (1, .long (ah)), (4, .int (nI t))]) dX11_turns_252 rfl (by decide) rfl ?_
      refine g_iconst (pc' := 255) (v := 0) dX11_turns_254 rfl (by decide) ?_
      refine g_istore (pc' := 257) (j := 7) (lv' := [(7, .int (0)), (5, .long (0)), (0, .ref (b + 159)), (1, .long (ah)), (4, .int (nI t))]) dX11_turns_255 rfl (by decide) rfl ?_
      refine g_sub [2, 3, 4, 1, 0] rfl ?_
      exact lp_tu3 hc hn ht g t 0 (by omega)
    · exact absurd (by rw [hc]; exact (nI_leI (by omega) (by omega)).mpr (by omega)) c1
  | succ m ih =>
    intro k t σ hm hk ht hc g
    refine g_iload (pc' := 195) dX11_turns_193 rfl 3 rfl ?_
    refine g_aload_n (pc' := 196) dX11_turns_195 rfl 0 rfl rfl ?_
    refine g_getI (pc' := 199) dX11_turns_196 rfl (PLk.lf fX11_140) o159 rfl ?_
    refine g_icmp_ge (pc' := 202) (tgt := 251) dX11_turns_199 rfl (by decide) (fun (c1 : (σ.1 159 19 : Int32) ≤ (nI k)) => ?_) (fun (c1 : ¬ (σ.1 159 19 : Int32) ≤ (nI k)) => ?_)
    · refine g_lconst (pc' := 252) (v := 0) dX11_turns_251 rfl (by decide) ?_
      refine g_lstore (pc' := 254) (j := 5) (lv' := [(5, .long (0)), (0, .ref (b + 159)), (1, .long (ah)), (4, .int (nI t))]) dX11_turns_252 rfl (by decide) rfl ?_
      refine g_iconst (pc' := 255) (v := 0) dX11_turns_254 rfl (by decide) ?_
      refine g_istore (pc' := 257) (j := 7) (lv' := [(7, .int (0)), (5, .long (0)), (0, .ref (b + 159)), (1, .long (ah)), (4, .int (nI t))]) dX11_turns_255 rfl (by decide) rfl ?_
      have hkn : ¬ k < n := Nat.not_lt.mpr (nle (a := n) (c := k) c1 hc rfl (by omega) (by omega))
      have e2 : tu2 n (m + 1) k t σ = (t, σ) := by rw [tu2, if_neg hkn]
      rw [e2] at g ⊢
      refine g_sub [2, 3, 4, 1, 0] rfl ?_
      exact lp_tu3 hc hn ht g t 0 (by omega)
    · refine g_aload_n (pc' := 203) dX11_turns_202 rfl 0 rfl rfl ?_
      refine g_iload (pc' := 205) dX11_turns_203 rfl 3 rfl ?_
      refine g_iload (pc' := 207) dX11_turns_205 rfl 2 rfl ?_
      refine g_callr (pc' := 210) dX11_turns_207 rfl mX11_149 (ev_X11_isLess (x1 := nI k) (x2 := nI t) (n := n) (x := k) (y := t) (σ := σ) hc (by omega) rfl rfl (by omega) (by omega) (d := d)) o159 rfl (rm_ok (by omega) (by decide)) ⟨rfl, rfl⟩ ⟨Nat.zero_le _, Nat.zero_le _⟩ rfl rfl (Nat.le_of_ble_eq_true rfl) ?_
      refine g_ifb_eq (pc' := 213) (tgt := 218) dX11_turns_210 rfl (by decide) (fun (c2 : (lessF (σ.1 168) k t n n 0) = false) => ?_) (fun (c2 : (lessF (σ.1 168) k t n n 0) = true) => ?_)
      · refine g_iload (pc' := 220) dX11_turns_218 rfl 2 rfl ?_
        refine g_istore (pc' := 222) (j := 4) (lv' := [(4, .int (nI t)), (0, .ref (b + 159)), (1, .long (ah)), (5, .int (nI k))]) dX11_turns_220 rfl (by decide) rfl ?_
        refine g_aload_n (pc' := 223) dX11_turns_222 rfl 1 rfl rfl ?_
        refine g_dup (pc' := 224) dX11_turns_223 rfl rfl ?_
        refine g_getI (pc' := 227) dX11_turns_224 rfl (PLk.lf fX11_146) o159 rfl ?_
        refine g_aload_n (pc' := 228) dX11_turns_227 rfl 1 rfl rfl ?_
        refine g_iload (pc' := 230) dX11_turns_228 rfl 3 rfl ?_
        refine g_callr (pc' := 233) dX11_turns_230 rfl mX11_153 (ev_X11_isLike (x1 := nI k) (n := n) (x := k) (σ := σ) hc (by omega) rfl (by omega) (d := d)) o159 rfl (rm_ok (by omega) (by decide)) ⟨rfl, rfl⟩ ⟨Nat.zero_le _, Nat.zero_le _⟩ rfl rfl (Nat.le_of_ble_eq_true rfl) ?_
        refine g_ifb_eq (pc' := 236) (tgt := 240) dX11_turns_233 rfl (by decide) (fun (c3 : (likeF (σ.1 168) k n n 0 true) = false) => ?_) (fun (c3 : (likeF (σ.1 168) k n n 0 true) = true) => ?_)
        · refine g_iconst (pc' := 241) (v := 0) dX11_turns_240 rfl (by decide) ?_
          refine g_iadd (pc' := 242) dX11_turns_241 rfl ?_
          refine g_putI (pc' := 245) dX11_turns_242 rfl fX11_146 o159 rfl ?_
          refine g_iinc (pc' := 248) (v := nI (k + 2)) (lv' := [(5, .int (nI (k + 2))), (4, .int (nI t)), (0, .ref (b + 159)), (1, .long (ah))]) dX11_turns_245 rfl 3 rfl (nI_add k 2) (by decide) rfl ?_
          refine g_goto (tgt := 193) dX11_turns_248 (by decide) ?_
          have hkn : k < n := nnle (a := n) (c := k) c1 hc rfl (by omega) (by omega)
          have e2 : tu2 n (m + 1) k t σ = tu2 n m (k + 2) t (u2 σ.1 159 20 ((σ.1 159 20) + bI false), σ.2) := by rw [tu2, if_pos hkn, if_neg (bf c2), c3]
          rw [e2] at g ⊢
          refine g_sub [2, 3, 1, 0] rfl ?_
          exact ih (k + 2) t _ (by omega) (by omega) (by omega) (by dsimp only; rw [u2_j (by decide)]; exact hc) g
        · refine g_iconst (pc' := 237) (v := 1) dX11_turns_236 rfl (by decide) ?_
          refine g_goto (tgt := 241) dX11_turns_237 (by decide) ?_
          refine g_iadd (pc' := 242) dX11_turns_241 rfl ?_
          refine g_putI (pc' := 245) dX11_turns_242 rfl fX11_146 o159 rfl ?_
          refine g_iinc (pc' := 248) (v := nI (k + 2)) (lv' := [(5, .int (nI (k + 2))), (4, .int (nI t)), (0, .ref (b + 159)), (1, .long (ah))]) dX11_turns_245 rfl 3 rfl (nI_add k 2) (by decide) rfl ?_
          refine g_goto (tgt := 193) dX11_turns_248 (by decide) ?_
          have hkn : k < n := nnle (a := n) (c := k) c1 hc rfl (by omega) (by omega)
          have e2 : tu2 n (m + 1) k t σ = tu2 n m (k + 2) t (u2 σ.1 159 20 ((σ.1 159 20) + bI true), σ.2) := by rw [tu2, if_pos hkn, if_neg (bf c2), c3]
          rw [e2] at g ⊢
          refine g_sub [2, 3, 1, 0] rfl ?_
          exact ih (k + 2) t _ (by omega) (by omega) (by omega) (by dsimp only; rw [u2_j (by decide)]; exact hc) g
      · refine g_iload (pc' := 215) dX11_turns_213 rfl 3 rfl ?_
        refine g_goto (tgt := 220) dX11_turns_215 (by decide) ?_
        refine g_istore (pc' := 222) (j := 4) (lv' := [(4, .int (nI k)), (0, .ref (b + 159)), (1, .long (ah)), (5, .int (nI k))]) dX11_turns_220 rfl (by decide) rfl ?_
        refine g_aload_n (pc' := 223) dX11_turns_222 rfl 1 rfl rfl ?_
        refine g_dup (pc' := 224) dX11_turns_223 rfl rfl ?_
        refine g_getI (pc' := 227) dX11_turns_224 rfl (PLk.lf fX11_146) o159 rfl ?_
        refine g_aload_n (pc' := 228) dX11_turns_227 rfl 1 rfl rfl ?_
        refine g_iload (pc' := 230) dX11_turns_228 rfl 3 rfl ?_
        refine g_callr (pc' := 233) dX11_turns_230 rfl mX11_153 (ev_X11_isLike (x1 := nI k) (n := n) (x := k) (σ := σ) hc (by omega) rfl (by omega) (d := d)) o159 rfl (rm_ok (by omega) (by decide)) ⟨rfl, rfl⟩ ⟨Nat.zero_le _, Nat.zero_le _⟩ rfl rfl (Nat.le_of_ble_eq_true rfl) ?_
        refine g_ifb_eq (pc' := 236) (tgt := 240) dX11_turns_233 rfl (by decide) (fun (c4 : (likeF (σ.1 168) k n n 0 true) = false) => ?_) (fun (c4 : (likeF (σ.1 168) k n n 0 true) = true) => ?_)
        · refine g_iconst (pc' := 241) (v := 0) dX11_turns_240 rfl (by decide) ?_
          refine g_iadd (pc' := 242) dX11_turns_241 rfl ?_
          refine g_putI (pc' := 245) dX11_turns_242 rfl fX11_146 o159 rfl ?_
          refine g_iinc (pc' := 248) (v := nI (k + 2)) (lv' := [(5, .int (nI (k + 2))), (4, .int (nI k)), (0, .ref (b + 159)), (1, .long (ah))]) dX11_turns_245 rfl 3 rfl (nI_add k 2) (by decide) rfl ?_
          refine g_goto (tgt := 193) dX11_turns_248 (by decide) ?_
          have hkn : k < n := nnle (a := n) (c := k) c1 hc rfl (by omega) (by omega)
          have e2 : tu2 n (m + 1) k t σ = tu2 n m (k + 2) k (u2 σ.1 159 20 ((σ.1 159 20) + bI false), σ.2) := by rw [tu2, if_pos hkn, if_pos c2, c4]
          rw [e2] at g ⊢
          refine g_sub [2, 3, 1, 0] rfl ?_
          exact ih (k + 2) k _ (by omega) (by omega) (by omega) (by dsimp only; rw [u2_j (by decide)]; exact hc) g
        · refine g_iconst (pc' := 237) (v := 1) dX11_turns_236 rfl (by decide) ?_
          refine g_goto (tgt := 241) dX11_turns_237 (by decide) ?_
          refine g_iadd (pc' := 242) dX11_turns_241 rfl ?_
          refine g_putI (pc' := 245) dX11_turns_242 rfl fX11_146 o159 rfl ?_
          refine g_iinc (pc' := 248) (v := nI (k + 2)) (lv' := [(5, .int (nI (k + 2))), (4, .int (nI k)), (0, .ref (b + 159)), (1, .long (ah))]) dX11_turns_245 rfl 3 rfl (nI_add k 2) (by decide) rfl ?_
          refine g_goto (tgt := 193) dX11_turns_248 (by decide) ?_
          have hkn : k < n := nnle (a := n) (c := k) c1 hc rfl (by omega) (by omega)
          have e2 : tu2 n (m + 1) k t σ = tu2 n m (k + 2) k (u2 σ.1 159 20 ((σ.1 159 20) + bI true), σ.2) := by rw [tu2, if_pos hkn, if_pos c2, c4]
          rw [e2] at g ⊢
          refine g_sub [2, 3, 1, 0] rfl ?_
          exact ih (k + 2) k _ (by omega) (by omega) (by omega) (by dsimp only; rw [u2_j (by decide)]; exact hc) g
theorem tu1s_19 {f k : Nat} {σ : Sg} : (tu1s f k σ).1 159 19 = σ.1 159 19 := by unfold tu1s; dsimp only; rw [u2_k (by decide)]
def tu182 (σ : Sg) : Sg := (u2 σ.1 159 20 0, σ.2)
def tuF (ah : Int64) (n : Nat) (σ : Sg) : Sg := tuE ah (tu2 n 32 0 0 (tu182 σ)).1 n (tu2 n 32 0 0 (tu182 σ)).2
def TuH (n : Nat) (σ : Sg) : Prop := TuG (tu2 n 32 0 0 (tu182 σ)).2
set_option maxRecDepth 100000 in
set_option maxHeartbeats 4000000 in
theorem lp_tu1 {l : Launch} {b : Nat} {cy : Nat → ClassId} {D : va_G} {d : Nat}   {n f : Nat} {ah : Int64}   (hn : n ≤ 62) (hf : f ≤ 2) : ∀ (m : Nat) (k : Nat) (σ : Sg), k + m = n → σ.1 159 19 = nI n → TuH n (tu1 f m k σ) → Gs l b cy D (d + 1) yX11_turns cX11_turns (Option.none : Option Jvm.ClassFile.FieldType) 10 none (tuF ah n (tu1 f m k σ)) 134 [(0, .ref (b + 159)), (1, .long (ah)), (3, .int (nI f)), (4, .int (nI k))] [] σ := by
  intro m
  induction m with
  | zero =>
    intro k σ hk hc g
    refine g_iload (pc' := 136) dX11_turns_134 rfl 3 rfl ?_
    refine g_aload_n (pc' := 137) dX11_turns_136 rfl 0 rfl rfl ?_
    refine g_getI (pc' := 140) dX11_turns_137 rfl (PLk.lf fX11_140) o159 rfl ?_
    refine g_icmp_ge (pc' := 143) (tgt := 182) dX11_turns_140 rfl (by decide) (fun (c1 : (σ.1 159 19 : Int32) ≤ (nI k)) => ?_) (fun (c1 : ¬ (σ.1 159 19 : Int32) ≤ (nI k)) => ?_)
    · refine g_iconst (pc' := 183) (v := 0) dX11_turns_182 rfl (by decide) ?_
      refine g_istore (pc' := 185) (j := 4) (lv' := [(4, .int (0)), (0, .ref (b + 159)), (1, .long (ah)), (3, .int (nI f))]) dX11_turns_183 rfl (by decide) rfl ?_
      refine g_aload_n (pc' := 186) dX11_turns_185 rfl 1 rfl rfl ?_
      refine g_iconst (pc' := 187) (v := 0) dX11_turns_186 rfl (by decide) ?_
      refine g_putI (pc' := 190) dX11_turns_187 rfl fX11_146 o159 rfl ?_
      refine g_iconst (pc' := 191) (v := 0) dX11_turns_190 rfl (by decide) ?_
      refine g_istore (pc' := 193) (j := 5) (lv' := [(5, .int (0)), (4, .int (0)), (0, .ref (b + 159)), (1, .long (ah)), (3, .int (nI f))]) dX11_turns_191 rfl (by decide) rfl ?_
      refine g_sub [2, 3, 1, 0] rfl ?_
      exact lp_tu2 hn 32 0 0 (tu182 σ) (by omega) (by omega) (by omega) (by unfold tu182; dsimp only; rw [u2_j (by decide)]; exact hc) g
    · exact absurd (by rw [hc]; exact (nI_leI (by omega) (by omega)).mpr (by omega)) c1
  | succ m ih =>
    intro k σ hk hc g
    refine g_iload (pc' := 136) dX11_turns_134 rfl 3 rfl ?_
    refine g_aload_n (pc' := 137) dX11_turns_136 rfl 0 rfl rfl ?_
    refine g_getI (pc' := 140) dX11_turns_137 rfl (PLk.lf fX11_140) o159 rfl ?_
    refine g_icmp_ge (pc' := 143) (tgt := 182) dX11_turns_140 rfl (by decide) (fun (c1 : (σ.1 159 19 : Int32) ≤ (nI k)) => ?_) (fun (c1 : ¬ (σ.1 159 19 : Int32) ≤ (nI k)) => ?_)
    · exact absurd (nle (a := n) (c := k) c1 hc rfl (by omega) (by omega)) (by omega)
    · refine g_aload_n (pc' := 144) dX11_turns_143 rfl 0 rfl rfl ?_
      refine g_getR (pc' := 147) (a := 168) dX11_turns_144 rfl (PLk.lf fX11_39) o159 rfl ?_
      refine g_iload (pc' := 149) dX11_turns_147 rfl 3 rfl ?_
      refine g_aload_n (pc' := 150) dX11_turns_149 rfl 0 rfl rfl ?_
      refine g_getR (pc' := 153) (a := 166) dX11_turns_150 rfl (PLk.lf fX11_33) o159 rfl ?_
      refine g_iload_n (pc' := 154) dX11_turns_153 rfl 2 rfl rfl ?_
      refine g_iload (pc' := 156) dX11_turns_154 rfl 3 rfl ?_
      refine g_iadd (pc' := 157) dX11_turns_156 rfl ?_
      refine g_iald (pc' := 158) (j := (f + k)) dX11_turns_157 rfl o166 (by decide) (nI_add f k) (by omega) ?_
      refine g_iast (pc' := 159) (j := k) dX11_turns_158 rfl (by decide) o168 (by decide) rfl (by omega) ?_
      refine g_aload_n (pc' := 160) dX11_turns_159 rfl 0 rfl rfl ?_
      refine g_dup (pc' := 161) dX11_turns_160 rfl rfl ?_
      refine g_getL (pc' := 164) dX11_turns_161 rfl (PLk.lf fX11_143) o159 rfl ?_
      refine g_aload_n (pc' := 165) dX11_turns_164 rfl 0 rfl rfl ?_
      refine g_getR (pc' := 168) (a := 168) dX11_turns_165 rfl (PLk.lf fX11_39) o159 rfl ?_
      refine g_iload (pc' := 170) dX11_turns_168 rfl 3 rfl ?_
      refine g_iald (pc' := 171) (j := k) dX11_turns_170 rfl o168 (by decide) rfl (by omega) ?_
      refine g_i2l (pc' := 172) dX11_turns_171 rfl ?_
      refine g_ladd (pc' := 173) dX11_turns_172 rfl ?_
      refine g_putL (pc' := 176) dX11_turns_173 rfl fX11_143 o159 rfl ?_
      refine g_iinc (pc' := 179) (v := nI (k + 1)) (lv' := [(4, .int (nI (k + 1))), (0, .ref (b + 159)), (1, .long (ah)), (3, .int (nI f))]) dX11_turns_176 rfl 3 rfl (nI_1 k) (by decide) rfl ?_
      refine g_goto (tgt := 134) dX11_turns_179 (by decide) ?_
      refine g_sub [1, 2, 3, 0] rfl ?_
      exact ih (k + 1) (tu1s f k σ) (by omega) (tu1s_19.trans hc) g
def tuB (σ : Sg) (f : Nat) : Sg := (u2 σ.1 159 19 (σ.1 159 19 - nI f), u2 σ.2 159 21 0)
/-- how many runs there are behind the merging -/
def tuN (n : Nat) (σ : Sg) : Nat := ((tuA n σ).2.2.1 159 19 - nI (tuA n σ).2.1).toNatClampNeg
def sTu (n : Nat) (σ : Sg) : Sg := tuF (tuA n σ).1 (tuN n σ) (tu1 (tuA n σ).2.1 (tuN n σ) 0 (tuB (tuA n σ).2.2 (tuA n σ).2.1))
def TuOk (n : Nat) (σ : Sg) : Prop := (tuA n σ).2.2.1 159 19 - nI (tuA n σ).2.1 = nI (tuN n σ) ∧ tuN n σ ≤ 62 ∧ (tuA n σ).2.1 ≤ 2 ∧ TuH (tuN n σ) (tu1 (tuA n σ).2.1 (tuN n σ) 0 (tuB (tuA n σ).2.2 (tuA n σ).2.1))
set_option maxRecDepth 100000 in
set_option maxHeartbeats 4000000 in
theorem tu_116 {l : Launch} {b : Nat} {cy : Nat → ClassId} {D : va_G} {d : Nat} {σ : Sg} {n : Nat} (hT : TuOk n σ) : Gs l b cy D (d + 1) yX11_turns cX11_turns (Option.none : Option Jvm.ClassFile.FieldType) 10 none (sTu n σ) 116 [(0, .ref (b + 159)), (1, .long ((tuA n σ).1)), (3, .int (nI (tuA n σ).2.1))] [] (tuA n σ).2.2 := by
  refine g_aload_n (pc' := 117) dX11_turns_116 rfl 0 rfl rfl ?_
  refine g_dup (pc' := 118) dX11_turns_117 rfl rfl ?_
  refine g_getI (pc' := 121) dX11_turns_118 rfl (PLk.lf fX11_140) o159 rfl ?_
  refine g_iload_n (pc' := 122) dX11_turns_121 rfl 2 rfl rfl ?_
  refine g_isub (pc' := 123) dX11_turns_122 rfl ?_
  refine g_putI (pc' := 126) dX11_turns_123 rfl fX11_140 o159 rfl ?_
  refine g_aload_n (pc' := 127) dX11_turns_126 rfl 0 rfl rfl ?_
  refine g_lconst (pc' := 128) (v := 0) dX11_turns_127 rfl (by decide) ?_
  refine g_putL (pc' := 131) dX11_turns_128 rfl fX11_143 o159 rfl ?_
  refine g_iconst (pc' := 132) (v := 0) dX11_turns_131 rfl (by decide) ?_
  refine g_istore (pc' := 134) (j := 4) (lv' := [(4, .int (0)), (0, .ref (b + 159)), (1, .long ((tuA n σ).1)), (3, .int (nI (tuA n σ).2.1))]) dX11_turns_132 rfl (by decide) rfl ?_
  refine g_sub [1, 2, 3, 0] rfl ?_
  exact lp_tu1 hT.2.1 hT.2.2.1 (tuN n σ) 0 (tuB (tuA n σ).2.2 (tuA n σ).2.1) (by omega) (by unfold tuB; dsimp only; rw [u2_eq]; exact hT.1) hT.2.2.2
set_option maxRecDepth 100000 in
set_option maxHeartbeats 4000000 in
theorem ev_X11_turns {l : Launch} {b : Nat} {cy : Nat → ClassId} {D : va_G} {d : Nat} {n : Nat} {σ : Sg} (hc : σ.1 159 19 = nI n) (h2 : 2 ≤ n) (hn : n ≤ 62) (hT : TuOk n σ) : Es l b cy D (d + 1) yX11_turns cX11_turns (Option.none : Option Jvm.ClassFile.FieldType) 10 [.ref (b + 159)] σ none (sTu n σ) := by
  refine Ev.of (by decide) (Nat.le_of_ble_eq_true rfl) rfl ?_
  exact tu_a hc h2 hn (tu_116 hT)
