def ctwF : Nat → Nat → Int32 → Sg → Int32 × Sg
  | 0, _, a, σ => (a, σ)
  | m + 1, u, a, σ => ctwF m (u + 1) (if rX2_isTwin u (nI u) σ = true then a + 1 else a) (sX2_isTwin u (nI u) σ)
theorem twin_1 {u a : Nat} {x : Int32} {σ : Sg} (h1 : a ≠ 53) (h2 : a ≠ 55) (h3 : a ≠ 56) : (sX2_isTwin u x σ).1 a = σ.1 a := by
  unfold sX2_isTwin
  rw [look_1 h1 h2 h3]; rfl
theorem twin_w {u : Nat} {x : Int32} {σ : Sg} (h : WAll σ) : WAll (sX2_isTwin u x σ) := fun s hs => (h s hs).fr (twin_1 (by omega) (by omega) (by omega))
theorem twin_x {u : Nat} {x : Int32} {σ : Sg} (h : WOk σ 55) : WOk (sX2_isTwin u x σ) 55 := by
  unfold sX2_isTwin
  exact look_ok (by decide) (h.fr rfl)
set_option maxRecDepth 100000 in
set_option maxHeartbeats 4000000 in
theorem lp_ctw {l : Launch} {b : Nat} {cy : Nat → ClassId} {D : va_G} {d : Nat}   {n : Nat}   (hn : n ≤ 12) : ∀ (m : Nat) (u : Nat) (a : Int32) (σ : Sg), u + m = n → σ.1 51 6 = nI n → WAll σ → WOk σ 55 → Gs l b cy D (d + 6) yX2_countTwins cX2_countTwins (Option.some Jvm.ClassFile.FieldType.int) 3 (some (.int (ctwF m u a σ).1)) (ctwF m u a σ).2 4 [(0, .ref (b + 51)), (1, .int (a)), (2, .int (nI u))] [] σ := by
  intro m
  induction m with
  | zero =>
    intro u a σ hu hz hw hx
    refine g_iload_n (pc' := 5) dX2_countTwins_4 rfl 2 rfl rfl ?_
    refine g_aload_n (pc' := 6) dX2_countTwins_5 rfl 0 rfl rfl ?_
    refine g_getI (pc' := 9) dX2_countTwins_6 rfl (PLk.lf fX2_42) o51 rfl ?_
    refine g_icmp_ge (pc' := 12) (tgt := 29) dX2_countTwins_9 rfl (by decide) (fun (c1 : (σ.1 51 6 : Int32) ≤ (nI u)) => ?_) (fun (c1 : ¬ (σ.1 51 6 : Int32) ≤ (nI u)) => ?_)
    · refine g_iload_n (pc' := 30) dX2_countTwins_29 rfl 1 rfl rfl ?_
      exact g_iret dX2_countTwins_30 rfl ⟨rfl, rfl⟩ rfl
    · exact absurd (show σ.1 51 6 ≤ nI u from by rw [hz]; exact (nI_leI (by omega) (by omega)).mpr (by omega)) c1
  | succ m ih =>
    intro u a σ hu hz hw hx
    refine g_iload_n (pc' := 5) dX2_countTwins_4 rfl 2 rfl rfl ?_
    refine g_aload_n (pc' := 6) dX2_countTwins_5 rfl 0 rfl rfl ?_
    refine g_getI (pc' := 9) dX2_countTwins_6 rfl (PLk.lf fX2_42) o51 rfl ?_
    refine g_icmp_ge (pc' := 12) (tgt := 29) dX2_countTwins_9 rfl (by decide) (fun (c1 : (σ.1 51 6 : Int32) ≤ (nI u)) => ?_) (fun (c1 : ¬ (σ.1 51 6 : Int32) ≤ (nI u)) => ?_)
    · exact absurd (nle (a := n) (c := u) c1 hz rfl (by omega) (by omega)) (by omega)
    · refine g_aload_n (pc' := 13) dX2_countTwins_12 rfl 0 rfl rfl ?_
      refine g_iload_n (pc' := 14) dX2_countTwins_13 rfl 2 rfl rfl ?_
      refine g_callr (pc' := 17) dX2_countTwins_14 rfl mX2_75 (ev_X2_isTwin (s := u) (x1 := nI u) (σ := σ) rfl (show u < 12 by omega) (hw u (by omega)) hx (d := d)) o51 rfl (rm_ok (by omega) (by decide)) ⟨rfl, rfl⟩ ⟨Nat.zero_le _, Nat.zero_le _⟩ rfl rfl (Nat.le_of_ble_eq_true rfl) ?_
      refine g_ifb_eq (pc' := 20) (tgt := 23) dX2_countTwins_17 rfl (by decide) (fun (c2 : (rX2_isTwin u (nI u) σ) = false) => ?_) (fun (c2 : (rX2_isTwin u (nI u) σ) = true) => ?_)
      · refine g_iinc (pc' := 26) (v := nI (u + 1)) (lv' := [(2, .int (nI (u + 1))), (0, .ref (b + 51)), (1, .int (a))]) dX2_countTwins_23 rfl 2 rfl (nI_1 u) (by decide) rfl ?_
        refine g_goto (tgt := 4) dX2_countTwins_26 (by decide) ?_
        rw [show ctwF (m + 1) u a σ = ctwF m (u + 1) a (sX2_isTwin u (nI u) σ) by rw [ctwF, if_neg (bf c2)]]
        refine g_sub [1, 2, 0] rfl ?_
        exact ih (u + 1) _ _ (by omega) (by rw [twin_1 (by decide) (by decide) (by decide)]; exact hz) (twin_w hw) (twin_x hx)
      · refine g_iinc (pc' := 23) (v := a + 1) (lv' := [(1, .int (a + 1)), (0, .ref (b + 51)), (2, .int (nI u))]) dX2_countTwins_20 rfl 1 rfl rfl (by decide) rfl ?_
        refine g_iinc (pc' := 26) (v := nI (u + 1)) (lv' := [(2, .int (nI (u + 1))), (1, .int (a + 1)), (0, .ref (b + 51))]) dX2_countTwins_23 rfl 2 rfl (nI_1 u) (by decide) rfl ?_
        refine g_goto (tgt := 4) dX2_countTwins_26 (by decide) ?_
        rw [show ctwF (m + 1) u a σ = ctwF m (u + 1) (a + 1) (sX2_isTwin u (nI u) σ) by rw [ctwF, if_pos c2]]
        refine g_sub [2, 1, 0] rfl ?_
        exact ih (u + 1) _ _ (by omega) (by rw [twin_1 (by decide) (by decide) (by decide)]; exact hz) (twin_w hw) (twin_x hx)
set_option maxRecDepth 100000 in
set_option maxHeartbeats 4000000 in
theorem ev_X2_countTwins {l : Launch} {b : Nat} {cy : Nat → ClassId} {D : va_G} {d : Nat}   {n : Nat} {σ : Sg}  (hz : σ.1 51 6 = nI n) (hn : n ≤ 12) (hw : WAll σ) (hx : WOk σ 55) : Es l b cy D (d + 6) yX2_countTwins cX2_countTwins (Option.some Jvm.ClassFile.FieldType.int) 3 [.ref (b + 51)] σ (some (.int ((ctwF n 0 0 σ).1))) ((ctwF n 0 0 σ).2) := by
  refine Ev.of (by decide) (Nat.le_of_ble_eq_true rfl) rfl ?_
  refine g_iconst (pc' := 1) (v := 0) dX2_countTwins_0 rfl (by decide) ?_
  refine g_istore_n (pc' := 2) (j := 1) (lv' := [(1, .int (0)), (0, .ref (b + 51))]) dX2_countTwins_1 rfl rfl (by decide) rfl ?_
  refine g_iconst (pc' := 3) (v := 0) dX2_countTwins_2 rfl (by decide) ?_
  refine g_istore_n (pc' := 4) (j := 2) (lv' := [(2, .int (0)), (1, .int (0)), (0, .ref (b + 51))]) dX2_countTwins_3 rfl rfl (by decide) rfl ?_
  refine g_sub [2, 1, 0] rfl ?_
  exact lp_ctw hn n 0 0 σ (by omega) hz hw hx
def bgF (i : Nat) : Nat → Int64 → Sg → Int32 × Sg
  | 0, _, σ => (-1, σ)
  | m + 1, t, σ => if rX9_turnsInFirstRun 63 64 i σ = -1 then bgF i m (t + rX9_turnFirstRun 63 64 σ) (sX9_turnFirstRun 63 64 σ) else ((t + rX9_turnsInFirstRun 63 64 i σ).toInt32, σ)
set_option maxRecDepth 100000 in
set_option maxHeartbeats 4000000 in
theorem lp_bg {l : Launch} {b : Nat} {cy : Nat → ClassId} {D : va_G} {d : Nat}   {u : Nat}   (hu : u < 12) : ∀ (m : Nat) (j : Nat) (t : Int64) (σ : Sg), j + m = 41 → Gs l b cy D (d + 3) yX2_begins cX2_begins (Option.some Jvm.ClassFile.FieldType.int) 11 (some (.int (bgF (65 + 7 * u + 1) m t σ).1)) (bgF (65 + 7 * u + 1) m t σ).2 90 [(0, .ref (b + 51)), (4, .ref (b + (65 + 7 * u + 1))), (6, .long (t)), (8, .int (nI j))] [] σ := by
  intro m
  induction m with
  | zero =>
    intro j t σ hj
    refine g_iload (pc' := 92) dX2_begins_90 rfl 3 rfl ?_
    refine g_bipush (pc' := 94) (v := 40) dX2_begins_92 rfl (by decide) ?_
    refine g_icmp_gt (pc' := 97) (tgt := 142) dX2_begins_94 rfl (by decide) (fun (c1 : (40 : Int32) < (nI j)) => ?_) (fun (c1 : ¬ (40 : Int32) < (nI j)) => ?_)
    · refine g_iconst (pc' := 143) (v := -1) dX2_begins_142 rfl (by decide) ?_
      exact g_iret dX2_begins_143 rfl ⟨rfl, rfl⟩ rfl
    · exact absurd ((nI_ltI (a := 40) (b := j) (by omega) (by omega)).mpr (by omega)) c1
  | succ m ih =>
    intro j t σ hj
    refine g_iload (pc' := 92) dX2_begins_90 rfl 3 rfl ?_
    refine g_bipush (pc' := 94) (v := 40) dX2_begins_92 rfl (by decide) ?_
    refine g_icmp_gt (pc' := 97) (tgt := 142) dX2_begins_94 rfl (by decide) (fun (c1 : (40 : Int32) < (nI j)) => ?_) (fun (c1 : ¬ (40 : Int32) < (nI j)) => ?_)
    · exact absurd (nlt' (a := 40) (c := j) c1 rfl rfl (by omega) (by omega)) (by omega)
    · refine g_aload_n (pc' := 98) dX2_begins_97 rfl 0 rfl rfl ?_
      refine g_getR (pc' := 101) (a := 63) dX2_begins_98 rfl (PLk.lf fX2_38) o51 rfl ?_
      refine g_aload (pc' := 103) dX2_begins_101 rfl 1 rfl ?_
      refine g_callr (pc' := 106) dX2_begins_103 rfl mX2_111 (ev_X9_turnsInFirstRun (k := 63) (p := 64) (i := (65 + 7 * u + 1)) (σ := σ) wo63 (kiN _ hu).2.1 (d := d)) o63 rfl (rm_ok (by omega) (by decide)) ⟨rfl, rfl⟩ ⟨Nat.zero_le _, Nat.zero_le _⟩ rfl rfl (Nat.le_of_ble_eq_true rfl) ?_
      refine g_lstore (pc' := 108) (j := 9) (lv' := [(9, .long (rX9_turnsInFirstRun 63 64 (65 + 7 * u + 1) σ)), (0, .ref (b + 51)), (4, .ref (b + (65 + 7 * u + 1))), (6, .long (t)), (8, .int (nI j))]) dX2_begins_106 rfl (by decide) rfl ?_
      refine g_lload (pc' := 110) dX2_begins_108 rfl 0 rfl ?_
      refine g_ldc2 (pc' := 113) dX2_begins_110 rfl kX2_115 ?_
      refine g_lif_eq (pc' := 117) (tgt := 124) dX2_begins_113 dX2_begins_114 rfl (by decide) (fun (c2 : (rX9_turnsInFirstRun 63 64 (65 + 7 * u + 1) σ : Int64) = (-1)) => ?_) (fun (c2 : ¬ (rX9_turnsInFirstRun 63 64 (65 + 7 * u + 1) σ : Int64) = (-1)) => ?_)
      · refine g_lload (pc' := 126) dX2_begins_124 rfl 3 rfl ?_
        refine g_aload_n (pc' := 127) dX2_begins_126 rfl 1 rfl rfl ?_
        refine g_getR (pc' := 130) (a := 63) dX2_begins_127 rfl (PLk.lf fX2_38) o51 rfl ?_
        refine g_callr (pc' := 133) dX2_begins_130 rfl mX2_117 (ev_X9_turnFirstRun (k := 63) (p := 64) (σ := σ) wo63 (d := d)) o63 rfl (rm_ok (by omega) (by decide)) ⟨rfl, rfl⟩ ⟨Nat.zero_le _, Nat.zero_le _⟩ rfl rfl (Nat.le_of_ble_eq_true rfl) ?_
        refine g_ladd (pc' := 134) dX2_begins_133 rfl ?_
        refine g_lstore (pc' := 136) (j := 6) (lv' := [(6, .long (t + (rX9_turnFirstRun 63 64 σ))), (9, .long (rX9_turnsInFirstRun 63 64 (65 + 7 * u + 1) σ)), (0, .ref (b + 51)), (4, .ref (b + (65 + 7 * u + 1))), (8, .int (nI j))]) dX2_begins_134 rfl (by decide) rfl ?_
        refine g_iinc (pc' := 139) (v := nI (j + 1)) (lv' := [(8, .int (nI (j + 1))), (6, .long (t + (rX9_turnFirstRun 63 64 σ))), (9, .long (rX9_turnsInFirstRun 63 64 (65 + 7 * u + 1) σ)), (0, .ref (b + 51)), (4, .ref (b + (65 + 7 * u + 1)))]) dX2_begins_136 rfl 4 rfl (nI_1 j) (by decide) rfl ?_
        refine g_goto (tgt := 90) dX2_begins_139 (by decide) ?_
        rw [show bgF (65 + 7 * u + 1) (m + 1) t σ = bgF (65 + 7 * u + 1) m (t + rX9_turnFirstRun 63 64 σ) (sX9_turnFirstRun 63 64 σ) by rw [bgF, if_pos c2]]
        refine g_sub [3, 4, 1, 0] rfl ?_
        exact ih (j + 1) _ _ (by omega)
      · refine g_lload (pc' := 119) dX2_begins_117 rfl 3 rfl ?_
        refine g_lload (pc' := 121) dX2_begins_119 rfl 0 rfl ?_
        refine g_ladd (pc' := 122) dX2_begins_121 rfl ?_
        refine g_l2i (pc' := 123) dX2_begins_122 rfl ?_
        exact g_iret dX2_begins_123 rfl ⟨rfl, rfl⟩ (by rw [bgF, if_neg c2])
def bgR (s u : Nat) (σ : Sg) : Int32 × Sg := if σ.1 (65 + 7 * s) 2 = 3 then if σ.1 (65 + 7 * u) 2 = 3 then if rX6_hasNoneBelowZero (65 + 7 * s + 1) σ = true then if rX6_hasNoneBelowZero (65 + 7 * u + 1) σ = true then bgF (65 + 7 * u + 1) 41 0 (sX9_copyFrom 63 64 (65 + 7 * s + 1) σ) else (-1, σ) else (-1, σ) else (-1, σ) else (-1, σ)
set_option maxRecDepth 100000 in
set_option maxHeartbeats 4000000 in
theorem ev_X2_begins {l : Launch} {b : Nat} {cy : Nat → ClassId} {D : va_G} {d : Nat}  {x1 : Int32} {x2 : Int32} {s : Nat} {u : Nat} {σ : Sg}  (q1 : x1 = nI s) (hs : s < 12) (q2 : x2 = nI u) (hu : u < 12) : Es l b cy D (d + 3) yX2_begins cX2_begins (Option.some Jvm.ClassFile.FieldType.int) 11 [.ref (b + 51), .int (x1), .int (x2)] σ (some (.int ((bgR s u σ).1))) ((bgR s u σ).2) := by
  refine Ev.of (by decide) (Nat.le_of_ble_eq_true rfl) rfl ?_
  refine g_aload_n (pc' := 1) dX2_begins_0 rfl 0 rfl rfl ?_
  refine g_getR (pc' := 4) (a := 52) dX2_begins_1 rfl (PLk.lf fX2_11) o51 rfl ?_
  refine g_iload_n (pc' := 5) dX2_begins_4 rfl 1 rfl rfl ?_
  refine g_aald (pc' := 6) (j := s) (a := (65 + 7 * s)) dX2_begins_5 rfl o52 (by decide) rfl (by decide) q1 hs (ak _ hs) ?_
  refine g_getR (pc' := 9) (a := (65 + 7 * s + 1)) dX2_begins_6 rfl (PLk.lf fX2_63) (kiN _ hs).1 rfl ?_
  refine g_astore_n (pc' := 10) (j := 3) (lv' := [(3, .ref (b + (65 + 7 * s + 1))), (0, .ref (b + 51)), (1, .int (x1)), (2, .int (x2))]) dX2_begins_9 rfl rfl (by decide) rfl ?_
  refine g_aload_n (pc' := 11) dX2_begins_10 rfl 1 rfl rfl ?_
  refine g_getR (pc' := 14) (a := 52) dX2_begins_11 rfl (PLk.lf fX2_11) o51 rfl ?_
  refine g_iload_n (pc' := 15) dX2_begins_14 rfl 3 rfl rfl ?_
  refine g_aald (pc' := 16) (j := u) (a := (65 + 7 * u)) dX2_begins_15 rfl o52 (by decide) rfl (by decide) q2 hu (ak _ hu) ?_
  refine g_getR (pc' := 19) (a := (65 + 7 * u + 1)) dX2_begins_16 rfl (PLk.lf fX2_63) (kiN _ hu).1 rfl ?_
  refine g_astore (pc' := 21) (j := 4) (lv' := [(4, .ref (b + (65 + 7 * u + 1))), (3, .ref (b + (65 + 7 * s + 1))), (0, .ref (b + 51)), (1, .int (x1)), (2, .int (x2))]) dX2_begins_19 rfl (by decide) rfl ?_
  refine g_aload_n (pc' := 22) dX2_begins_21 rfl 2 rfl rfl ?_
  refine g_getR (pc' := 25) (a := 52) dX2_begins_22 rfl (PLk.lf fX2_11) o51 rfl ?_
  refine g_iload_n (pc' := 26) dX2_begins_25 rfl 3 rfl rfl ?_
  refine g_aald (pc' := 27) (j := s) (a := (65 + 7 * s)) dX2_begins_26 rfl o52 (by decide) rfl (by decide) q1 hs (ak _ hs) ?_
  refine g_callr (pc' := 30) dX2_begins_27 rfl mX2_103 (ev_X3_kind (k := (65 + 7 * s)) (s := (65 + 7 * s + 1)) (h := (65 + 7 * s + 2)) (r := (65 + 7 * s + 3)) (e := (65 + 7 * s + 4)) (w := (65 + 7 * s + 5)) (p := (65 + 7 * s + 6)) (σ := σ) (kiN _ hs) (d := d + 2)) (kiN _ hs).1 rfl (rm_ok (by omega) (by decide)) ⟨rfl, rfl⟩ ⟨Nat.zero_le _, Nat.zero_le _⟩ rfl rfl (Nat.le_of_ble_eq_true rfl) ?_
  refine g_iconst (pc' := 31) (v := 3) dX2_begins_30 rfl (by decide) ?_
  refine g_icmp_ne (pc' := 34) (tgt := 51) dX2_begins_31 rfl (by decide) (fun (c1 : ¬ (rX3_kind (65 + 7 * s) (65 + 7 * s + 1) (65 + 7 * s + 2) (65 + 7 * s + 3) (65 + 7 * s + 4) (65 + 7 * s + 5) (65 + 7 * s + 6) σ : Int32) = 3) => ?_) (fun (c1 : (rX3_kind (65 + 7 * s) (65 + 7 * s + 1) (65 + 7 * s + 2) (65 + 7 * s + 3) (65 + 7 * s + 4) (65 + 7 * s + 5) (65 + 7 * s + 6) σ : Int32) = 3) => ?_)
  · refine g_iconst (pc' := 52) (v := 0) dX2_begins_51 rfl (by decide) ?_
    refine g_istore (pc' := 54) (j := 5) (lv' := [(5, .int (0)), (4, .ref (b + (65 + 7 * u + 1))), (3, .ref (b + (65 + 7 * s + 1))), (0, .ref (b + 51)), (1, .int (x1)), (2, .int (x2))]) dX2_begins_52 rfl (by decide) rfl ?_
    refine g_iload (pc' := 56) dX2_begins_54 rfl 0 rfl ?_
    refine g_if_eq (pc' := 59) (tgt := 74) dX2_begins_56 rfl (by decide) (fun _ => ?_) (fun z => absurd z (by decide))
    refine g_iconst (pc' := 75) (v := -1) dX2_begins_74 rfl (by decide) ?_
    exact g_iret dX2_begins_75 rfl ⟨rfl, rfl⟩ (by rw [show bgR s u σ = (-1, σ) by unfold bgR; rw [if_neg (show ¬ σ.1 (65 + 7 * s) 2 = 3 from c1)]])
  · refine g_aload_n (pc' := 35) dX2_begins_34 rfl 2 rfl rfl ?_
    refine g_getR (pc' := 38) (a := 52) dX2_begins_35 rfl (PLk.lf fX2_11) o51 rfl ?_
    refine g_iload_n (pc' := 39) dX2_begins_38 rfl 4 rfl rfl ?_
    refine g_aald (pc' := 40) (j := u) (a := (65 + 7 * u)) dX2_begins_39 rfl o52 (by decide) rfl (by decide) q2 hu (ak _ hu) ?_
    refine g_callr (pc' := 43) dX2_begins_40 rfl mX2_103 (ev_X3_kind (k := (65 + 7 * u)) (s := (65 + 7 * u + 1)) (h := (65 + 7 * u + 2)) (r := (65 + 7 * u + 3)) (e := (65 + 7 * u + 4)) (w := (65 + 7 * u + 5)) (p := (65 + 7 * u + 6)) (σ := σ) (kiN _ hu) (d := d + 2)) (kiN _ hu).1 rfl (rm_ok (by omega) (by decide)) ⟨rfl, rfl⟩ ⟨Nat.zero_le _, Nat.zero_le _⟩ rfl rfl (Nat.le_of_ble_eq_true rfl) ?_
    refine g_iconst (pc' := 44) (v := 3) dX2_begins_43 rfl (by decide) ?_
    refine g_icmp_ne (pc' := 47) (tgt := 51) dX2_begins_44 rfl (by decide) (fun (c3 : ¬ (rX3_kind (65 + 7 * u) (65 + 7 * u + 1) (65 + 7 * u + 2) (65 + 7 * u + 3) (65 + 7 * u + 4) (65 + 7 * u + 5) (65 + 7 * u + 6) σ : Int32) = 3) => ?_) (fun (c3 : (rX3_kind (65 + 7 * u) (65 + 7 * u + 1) (65 + 7 * u + 2) (65 + 7 * u + 3) (65 + 7 * u + 4) (65 + 7 * u + 5) (65 + 7 * u + 6) σ : Int32) = 3) => ?_)
    · refine g_iconst (pc' := 52) (v := 0) dX2_begins_51 rfl (by decide) ?_
      refine g_istore (pc' := 54) (j := 5) (lv' := [(5, .int (0)), (4, .ref (b + (65 + 7 * u + 1))), (3, .ref (b + (65 + 7 * s + 1))), (0, .ref (b + 51)), (1, .int (x1)), (2, .int (x2))]) dX2_begins_52 rfl (by decide) rfl ?_
      refine g_iload (pc' := 56) dX2_begins_54 rfl 0 rfl ?_
      refine g_if_eq (pc' := 59) (tgt := 74) dX2_begins_56 rfl (by decide) (fun _ => ?_) (fun z => absurd z (by decide))
      refine g_iconst (pc' := 75) (v := -1) dX2_begins_74 rfl (by decide) ?_
      exact g_iret dX2_begins_75 rfl ⟨rfl, rfl⟩ (by rw [show bgR s u σ = (-1, σ) by unfold bgR; rw [if_pos (show σ.1 (65 + 7 * s) 2 = 3 from c1), if_neg (show ¬ σ.1 (65 + 7 * u) 2 = 3 from c3)]])
    · refine g_iconst (pc' := 48) (v := 1) dX2_begins_47 rfl (by decide) ?_
      refine g_goto (tgt := 52) dX2_begins_48 (by decide) ?_
      refine g_istore (pc' := 54) (j := 5) (lv' := [(5, .int (1)), (4, .ref (b + (65 + 7 * u + 1))), (3, .ref (b + (65 + 7 * s + 1))), (0, .ref (b + 51)), (1, .int (x1)), (2, .int (x2))]) dX2_begins_52 rfl (by decide) rfl ?_
      refine g_iload (pc' := 56) dX2_begins_54 rfl 0 rfl ?_
      refine g_if_eq (pc' := 59) (tgt := 74) dX2_begins_56 rfl (by decide) (fun z => absurd z (by decide)) (fun _ => ?_)
      refine g_aload_n (pc' := 60) dX2_begins_59 rfl 2 rfl rfl ?_
      refine g_callr (pc' := 63) dX2_begins_60 rfl mX2_106 (ev_X6_hasNoneBelowZero (k := (65 + 7 * s + 1)) (σ := σ) (kiN _ hs).2.1 (d := d + 2)) (kiN _ hs).2.1 rfl (rm_ok (by omega) (by decide)) ⟨rfl, rfl⟩ ⟨Nat.zero_le _, Nat.zero_le _⟩ rfl rfl (Nat.le_of_ble_eq_true rfl) ?_
      refine g_ifb_eq (pc' := 66) (tgt := 74) dX2_begins_63 rfl (by decide) (fun (c6 : (rX6_hasNoneBelowZero (65 + 7 * s + 1) σ) = false) => ?_) (fun (c6 : (rX6_hasNoneBelowZero (65 + 7 * s + 1) σ) = true) => ?_)
      · refine g_iconst (pc' := 75) (v := -1) dX2_begins_74 rfl (by decide) ?_
        exact g_iret dX2_begins_75 rfl ⟨rfl, rfl⟩ (by rw [show bgR s u σ = (-1, σ) by unfold bgR; rw [if_pos (show σ.1 (65 + 7 * s) 2 = 3 from c1), if_pos (show σ.1 (65 + 7 * u) 2 = 3 from c3), if_neg (bf c6)]])
      · refine g_aload (pc' := 68) dX2_begins_66 rfl 1 rfl ?_
        refine g_callr (pc' := 71) dX2_begins_68 rfl mX2_106 (ev_X6_hasNoneBelowZero (k := (65 + 7 * u + 1)) (σ := σ) (kiN _ hu).2.1 (d := d + 2)) (kiN _ hu).2.1 rfl (rm_ok (by omega) (by decide)) ⟨rfl, rfl⟩ ⟨Nat.zero_le _, Nat.zero_le _⟩ rfl rfl (Nat.le_of_ble_eq_true rfl) ?_
        refine g_ifb_ne (pc' := 74) (tgt := 76) dX2_begins_71 rfl (by decide) (fun (c7 : (rX6_hasNoneBelowZero (65 + 7 * u + 1) σ) = true) => ?_) (fun (c7 : (rX6_hasNoneBelowZero (65 + 7 * u + 1) σ) = false) => ?_)
        · refine g_aload_n (pc' := 77) dX2_begins_76 rfl 3 rfl rfl ?_
          refine g_getR (pc' := 80) (a := 63) dX2_begins_77 rfl (PLk.lf fX2_38) o51 rfl ?_
          refine g_aload_n (pc' := 81) dX2_begins_80 rfl 2 rfl rfl ?_
          refine g_callv (pc' := 84) dX2_begins_81 rfl mX2_110 (ev_X9_copyFrom (k := 63) (p := 64) (i := (65 + 7 * s + 1)) (σ := σ) wo63 (kiN _ hs).2.1 (d := d + 1)) o63 rfl (rm_ok (by omega) (by decide)) ⟨rfl, rfl⟩ ⟨Nat.zero_le _, Nat.zero_le _⟩ rfl rfl (Nat.le_of_ble_eq_true rfl) ?_
          refine g_lconst (pc' := 85) (v := 0) dX2_begins_84 rfl (by decide) ?_
          refine g_lstore (pc' := 87) (j := 6) (lv' := [(6, .long (0)), (5, .int (1)), (4, .ref (b + (65 + 7 * u + 1))), (3, .ref (b + (65 + 7 * s + 1))), (0, .ref (b + 51)), (1, .int (x1)), (2, .int (x2))]) dX2_begins_85 rfl (by decide) rfl ?_
          refine g_iconst (pc' := 88) (v := 0) dX2_begins_87 rfl (by decide) ?_
          refine g_istore (pc' := 90) (j := 8) (lv' := [(8, .int (0)), (6, .long (0)), (5, .int (1)), (4, .ref (b + (65 + 7 * u + 1))), (3, .ref (b + (65 + 7 * s + 1))), (0, .ref (b + 51)), (1, .int (x1)), (2, .int (x2))]) dX2_begins_88 rfl (by decide) rfl ?_
          rw [show bgR s u σ = bgF (65 + 7 * u + 1) 41 0 (sX9_copyFrom 63 64 (65 + 7 * s + 1) σ) by unfold bgR; rw [if_pos (show σ.1 (65 + 7 * s) 2 = 3 from c1), if_pos (show σ.1 (65 + 7 * u) 2 = 3 from c3), if_pos c6, if_pos c7]]
          refine g_sub [5, 3, 1, 0] rfl ?_
          exact lp_bg hu 41 0 0 _ (by omega)
        · refine g_iconst (pc' := 75) (v := -1) dX2_begins_74 rfl (by decide) ?_
          exact g_iret dX2_begins_75 rfl ⟨rfl, rfl⟩ (by rw [show bgR s u σ = (-1, σ) by unfold bgR; rw [if_pos (show σ.1 (65 + 7 * s) 2 = 3 from c1), if_pos (show σ.1 (65 + 7 * u) 2 = 3 from c3), if_pos c6, if_neg (bf c7)]])
