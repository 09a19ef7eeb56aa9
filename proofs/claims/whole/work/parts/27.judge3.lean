def ctwF : Nat → Nat → Int32 → Sg → Int32 × Sg
  | 0, _, a, σ => (a, σ)
  | m + 1, u, a, σ => ctwF m (u + 1) (if rX2_isTwin u (nI u) σ = true then a + 1 else a) (sX2_isTwin u (nI u) σ)
theorem twin_1 {u a : Nat} {x : Int32} {σ : Sg} (h1 : a ≠ 53) (h2 : a ≠ 55) (h3 : a ≠ 56) : (sX2_isTwin u x σ).1 a = σ.1 a := by
  unfold sX2_isTwin
  rw [look_1 h1 h2 h3]; rfl
theorem twin_w {u : Nat} {x : Int32} {σ : Sg} (h : WAll σ) : WAll (sX2_isTwin u x σ) := fun s hs => (h s hs).fr (twin_1 (by omega) (by omega) (by omega))
theorem twin_x {u : Nat} {x : Int32} {σ : Sg} (h : WOk σ 55) : WOk (sX2_isTwin u x σ) 55 := by
  unfold sX2_isTwin
  exact look_ok (by decide) (h.fr rfl)
set_option maxRecDepth 100000 in
set_option maxHeartbeats 4000000 in
theorem lp_ctw {l : Launch} {b : Nat} {cy : Nat → ClassId} {D : va_G} {d : Nat}   {n : Nat}   (hn : n ≤ 12) : ∀ (m : Nat) (u : Nat) (a : Int32) (σ : Sg), u + m = n → σ.1 1 1 = nI n → WAll σ → WOk σ 55 → Gs l b cy D (d + 6) yX2_countTwins cX2_countTwins (Option.some Jvm.ClassFile.FieldType.int) 3 (some (.int (ctwF m u a σ).1)) (ctwF m u a σ).2 4 [(0, .ref (b + 51)), (1, .int (a)), (2, .int (nI u))] [] σ := by
  intro m
  induction m with
  | zero =>
    intro u a σ hu hz hw hx
    refine g_iload_n (pc' := 5) dX2_countTwins_4 rfl 2 rfl rfl ?_
    refine g_aload_n (pc' := 6) dX2_countTwins_5 rfl 0 rfl rfl ?_
    refine g_getR (pc' := 9) (a := 1) dX2_countTwins_6 rfl (PLk.lf fX2_45) o51 rfl ?_
    refine g_callr (pc' := 12) dX2_countTwins_9 rfl mX2_49 (ev_X5_size (k := 1) (c := 2) (σ := σ) sf1 (d := d + 5)) o1 rfl (rm_ok (by omega) (by decide)) ⟨rfl, rfl⟩ ⟨Nat.zero_le _, Nat.zero_le _⟩ rfl rfl (Nat.le_of_ble_eq_true rfl) ?_
    refine g_icmp_ge (pc' := 15) (tgt := 32) dX2_countTwins_12 rfl (by decide) (fun (c1 : (rX5_size 1 2 σ : Int32) ≤ (nI u)) => ?_) (fun (c1 : ¬ (rX5_size 1 2 σ : Int32) ≤ (nI u)) => ?_)
    · refine g_iload_n (pc' := 33) dX2_countTwins_32 rfl 1 rfl rfl ?_
      exact g_iret dX2_countTwins_33 rfl ⟨rfl, rfl⟩ rfl
    · exact absurd (show rX5_size 1 2 σ ≤ nI u from by unfold rX5_size; rw [hz]; exact (nI_leI (by omega) (by omega)).mpr (by omega)) c1
  | succ m ih =>
    intro u a σ hu hz hw hx
    refine g_iload_n (pc' := 5) dX2_countTwins_4 rfl 2 rfl rfl ?_
    refine g_aload_n (pc' := 6) dX2_countTwins_5 rfl 0 rfl rfl ?_
    refine g_getR (pc' := 9) (a := 1) dX2_countTwins_6 rfl (PLk.lf fX2_45) o51 rfl ?_
    refine g_callr (pc' := 12) dX2_countTwins_9 rfl mX2_49 (ev_X5_size (k := 1) (c := 2) (σ := σ) sf1 (d := d + 5)) o1 rfl (rm_ok (by omega) (by decide)) ⟨rfl, rfl⟩ ⟨Nat.zero_le _, Nat.zero_le _⟩ rfl rfl (Nat.le_of_ble_eq_true rfl) ?_
    refine g_icmp_ge (pc' := 15) (tgt := 32) dX2_countTwins_12 rfl (by decide) (fun (c1 : (rX5_size 1 2 σ : Int32) ≤ (nI u)) => ?_) (fun (c1 : ¬ (rX5_size 1 2 σ : Int32) ≤ (nI u)) => ?_)
    · exact absurd (nle (a := n) (c := u) c1 hz rfl (by omega) (by omega)) (by omega)
    · refine g_aload_n (pc' := 16) dX2_countTwins_15 rfl 0 rfl rfl ?_
      refine g_iload_n (pc' := 17) dX2_countTwins_16 rfl 2 rfl rfl ?_
      refine g_callr (pc' := 20) dX2_countTwins_17 rfl mX2_73 (ev_X2_isTwin (s := u) (x1 := nI u) (σ := σ) rfl (show u < 12 by omega) (hw u (by omega)) hx (d := d)) o51 rfl (rm_ok (by omega) (by decide)) ⟨rfl, rfl⟩ ⟨Nat.zero_le _, Nat.zero_le _⟩ rfl rfl (Nat.le_of_ble_eq_true rfl) ?_
      refine g_ifb_eq (pc' := 23) (tgt := 26) dX2_countTwins_20 rfl (by decide) (fun (c2 : (rX2_isTwin u (nI u) σ) = false) => ?_) (fun (c2 : (rX2_isTwin u (nI u) σ) = true) => ?_)
      · refine g_iinc (pc' := 29) (v := nI (u + 1)) (lv' := [(2, .int (nI (u + 1))), (0, .ref (b + 51)), (1, .int (a))]) dX2_countTwins_26 rfl 2 rfl (nI_1 u) (by decide) rfl ?_
        refine g_goto (tgt := 4) dX2_countTwins_29 (by decide) ?_
        rw [show ctwF (m + 1) u a σ = ctwF m (u + 1) a (sX2_isTwin u (nI u) σ) by rw [ctwF, if_neg (bf c2)]]
        refine g_sub [1, 2, 0] rfl ?_
        exact ih (u + 1) _ _ (by omega) (by rw [twin_1 (by decide) (by decide) (by decide)]; exact hz) (twin_w hw) (twin_x hx)
      · refine g_iinc (pc' := 26) (v := a + 1) (lv' := [(1, .int (a + 1)), (0, .ref (b + 51)), (2, .int (nI u))]) dX2_countTwins_23 rfl 1 rfl rfl (by decide) rfl ?_
        refine g_iinc (pc' := 29) (v := nI (u + 1)) (lv' := [(2, .int (nI (u + 1))), (1, .int (a + 1)), (0, .ref (b + 51))]) dX2_countTwins_26 rfl 2 rfl (nI_1 u) (by decide) rfl ?_
        refine g_goto (tgt := 4) dX2_countTwins_29 (by decide) ?_
        rw [show ctwF (m + 1) u a σ = ctwF m (u + 1) (a + 1) (sX2_isTwin u (nI u) σ) by rw [ctwF, if_pos c2]]
        refine g_sub [2, 1, 0] rfl ?_
        exact ih (u + 1) _ _ (by omega) (by rw [twin_1 (by decide) (by decide) (by decide)]; exact hz) (twin_w hw) (twin_x hx)
set_option maxRecDepth 100000 in
set_option maxHeartbeats 4000000 in
theorem ev_X2_countTwins {l : Launch} {b : Nat} {cy : Nat → ClassId} {D : va_G} {d : Nat}   {n : Nat} {σ : Sg}  (hz : σ.1 1 1 = nI n) (hn : n ≤ 12) (hw : WAll σ) (hx : WOk σ 55) : Es l b cy D (d + 6) yX2_countTwins cX2_countTwins (Option.some Jvm.ClassFile.FieldType.int) 3 [.ref (b + 51)] σ (some (.int ((ctwF n 0 0 σ).1))) ((ctwF n 0 0 σ).2) := by
  refine Ev.of (by decide) (Nat.le_of_ble_eq_true rfl) rfl ?_
  refine g_iconst (pc' := 1) (v := 0) dX2_countTwins_0 rfl (by decide) ?_
  refine g_istore_n (pc' := 2) (j := 1) (lv' := [(1, .int (0)), (0, .ref (b + 51))]) dX2_countTwins_1 rfl rfl (by decide) rfl ?_
  refine g_iconst (pc' := 3) (v := 0) dX2_countTwins_2 rfl (by decide) ?_
  refine g_istore_n (pc' := 4) (j := 2) (lv' := [(2, .int (0)), (1, .int (0)), (0, .ref (b + 51))]) dX2_countTwins_3 rfl rfl (by decide) rfl ?_
  refine g_sub [2, 1, 0] rfl ?_
  exact lp_ctw hn n 0 0 σ (by omega) hz hw hx
def bgF : Nat → Int64 → Sg → Int32 × Sg
  | 0, _, σ => (-1, σ)
  | m + 1, t, σ => if rX9_turnsInFirstRun 64 65 61 σ = -1 then bgF m (t + rX9_turnFirstRun 64 65 σ) (sX9_turnFirstRun 64 65 σ) else ((t + rX9_turnsInFirstRun 64 65 61 σ).toInt32, σ)
set_option maxRecDepth 100000 in
set_option maxHeartbeats 4000000 in
theorem lp_bg {l : Launch} {b : Nat} {cy : Nat → ClassId} {D : va_G} {d : Nat}      : ∀ (m : Nat) (j : Nat) (t : Int64) (σ : Sg), j + m = 41 → Gs l b cy D (d + 3) yX2_begins cX2_begins (Option.some Jvm.ClassFile.FieldType.int) 9 (some (.int (bgF m t σ).1)) (bgF m t σ).2 99 [(0, .ref (b + 51)), (4, .long (t)), (6, .int (nI j))] [] σ := by
  intro m
  induction m with
  | zero =>
    intro j t σ hj
    refine g_iload (pc' := 101) dX2_begins_99 rfl 2 rfl ?_
    refine g_bipush (pc' := 103) (v := 40) dX2_begins_101 rfl (by decide) ?_
    refine g_icmp_gt (pc' := 106) (tgt := 153) dX2_begins_103 rfl (by decide) (fun (c1 : (40 : Int32) < (nI j)) => ?_) (fun (c1 : ¬ (40 : Int32) < (nI j)) => ?_)
    · refine g_iconst (pc' := 154) (v := -1) dX2_begins_153 rfl (by decide) ?_
      exact g_iret dX2_begins_154 rfl ⟨rfl, rfl⟩ rfl
    · exact absurd ((nI_ltI (a := 40) (b := j) (by omega) (by omega)).mpr (by omega)) c1
  | succ m ih =>
    intro j t σ hj
    refine g_iload (pc' := 101) dX2_begins_99 rfl 2 rfl ?_
    refine g_bipush (pc' := 103) (v := 40) dX2_begins_101 rfl (by decide) ?_
    refine g_icmp_gt (pc' := 106) (tgt := 153) dX2_begins_103 rfl (by decide) (fun (c1 : (40 : Int32) < (nI j)) => ?_) (fun (c1 : ¬ (40 : Int32) < (nI j)) => ?_)
    · exact absurd (nlt' (a := 40) (c := j) c1 rfl rfl (by omega) (by omega)) (by omega)
    · refine g_aload_n (pc' := 107) dX2_begins_106 rfl 0 rfl rfl ?_
      refine g_getR (pc' := 110) (a := 64) dX2_begins_107 rfl (PLk.lf fX2_41) o51 rfl ?_
      refine g_aload_n (pc' := 111) dX2_begins_110 rfl 0 rfl rfl ?_
      refine g_getR (pc' := 114) (a := 61) dX2_begins_111 rfl (PLk.lf fX2_29) o51 rfl ?_
      refine g_callr (pc' := 117) dX2_begins_114 rfl mX2_111 (ev_X9_turnsInFirstRun (k := 64) (p := 65) (i := 61) (σ := σ) wo64 o61 (d := d)) o64 rfl (rm_ok (by omega) (by decide)) ⟨rfl, rfl⟩ ⟨Nat.zero_le _, Nat.zero_le _⟩ rfl rfl (Nat.le_of_ble_eq_true rfl) ?_
      refine g_lstore (pc' := 119) (j := 7) (lv' := [(7, .long (rX9_turnsInFirstRun 64 65 61 σ)), (0, .ref (b + 51)), (4, .long (t)), (6, .int (nI j))]) dX2_begins_117 rfl (by decide) rfl ?_
      refine g_lload (pc' := 121) dX2_begins_119 rfl 0 rfl ?_
      refine g_ldc2 (pc' := 124) dX2_begins_121 rfl kX2_115 ?_
      refine g_lif_eq (pc' := 128) (tgt := 135) dX2_begins_124 dX2_begins_125 rfl (by decide) (fun (c2 : (rX9_turnsInFirstRun 64 65 61 σ : Int64) = (-1)) => ?_) (fun (c2 : ¬ (rX9_turnsInFirstRun 64 65 61 σ : Int64) = (-1)) => ?_)
      · refine g_lload (pc' := 137) dX2_begins_135 rfl 2 rfl ?_
        refine g_aload_n (pc' := 138) dX2_begins_137 rfl 1 rfl rfl ?_
        refine g_getR (pc' := 141) (a := 64) dX2_begins_138 rfl (PLk.lf fX2_41) o51 rfl ?_
        refine g_callr (pc' := 144) dX2_begins_141 rfl mX2_117 (ev_X9_turnFirstRun (k := 64) (p := 65) (σ := σ) wo64 (d := d)) o64 rfl (rm_ok (by omega) (by decide)) ⟨rfl, rfl⟩ ⟨Nat.zero_le _, Nat.zero_le _⟩ rfl rfl (Nat.le_of_ble_eq_true rfl) ?_
        refine g_ladd (pc' := 145) dX2_begins_144 rfl ?_
        refine g_lstore (pc' := 147) (j := 4) (lv' := [(4, .long (t + (rX9_turnFirstRun 64 65 σ))), (7, .long (rX9_turnsInFirstRun 64 65 61 σ)), (0, .ref (b + 51)), (6, .int (nI j))]) dX2_begins_145 rfl (by decide) rfl ?_
        refine g_iinc (pc' := 150) (v := nI (j + 1)) (lv' := [(6, .int (nI (j + 1))), (4, .long (t + (rX9_turnFirstRun 64 65 σ))), (7, .long (rX9_turnsInFirstRun 64 65 61 σ)), (0, .ref (b + 51))]) dX2_begins_147 rfl 3 rfl (nI_1 j) (by decide) rfl ?_
        refine g_goto (tgt := 99) dX2_begins_150 (by decide) ?_
        rw [show bgF (m + 1) t σ = bgF m (t + rX9_turnFirstRun 64 65 σ) (sX9_turnFirstRun 64 65 σ) by rw [bgF, if_pos c2]]
        refine g_sub [3, 1, 0] rfl ?_
        exact ih (j + 1) _ _ (by omega)
      · refine g_lload (pc' := 130) dX2_begins_128 rfl 2 rfl ?_
        refine g_lload (pc' := 132) dX2_begins_130 rfl 0 rfl ?_
        refine g_ladd (pc' := 133) dX2_begins_132 rfl ?_
        refine g_l2i (pc' := 134) dX2_begins_133 rfl ?_
        exact g_iret dX2_begins_134 rfl ⟨rfl, rfl⟩ (by rw [bgF, if_neg c2])
def bg0 (s u : Nat) (σ : Sg) : Sg := ldS 2 61 u (ldS 2 60 s σ)
def bgR (s u : Nat) (σ : Sg) : Int32 × Sg := if σ.1 (66 + 7 * s) 2 = 3 then if σ.1 (66 + 7 * u) 2 = 3 then if rX6_hasNoneBelowZero 60 (bg0 s u σ) = true then if rX6_hasNoneBelowZero 61 (bg0 s u σ) = true then bgF 41 0 (sX9_copyFrom 64 65 60 (bg0 s u σ)) else (-1, bg0 s u σ) else (-1, bg0 s u σ) else (-1, bg0 s u σ) else (-1, bg0 s u σ)
set_option maxRecDepth 100000 in
set_option maxHeartbeats 4000000 in
theorem ev_X2_begins {l : Launch} {b : Nat} {cy : Nat → ClassId} {D : va_G} {d : Nat}  {x1 : Int32} {x2 : Int32} {s : Nat} {u : Nat} {σ : Sg}  (q1 : x1 = nI s) (hs : s < 12) (q2 : x2 = nI u) (hu : u < 12) : Es l b cy D (d + 3) yX2_begins cX2_begins (Option.some Jvm.ClassFile.FieldType.int) 9 [.ref (b + 51), .int (x1), .int (x2)] σ (some (.int ((bgR s u σ).1))) ((bgR s u σ).2) := by
  refine Ev.of (by decide) (Nat.le_of_ble_eq_true rfl) rfl ?_
  refine g_aload_n (pc' := 1) dX2_begins_0 rfl 0 rfl rfl ?_
  refine g_getR (pc' := 4) (a := 1) dX2_begins_1 rfl (PLk.lf fX2_45) o51 rfl ?_
  refine g_iload_n (pc' := 5) dX2_begins_4 rfl 1 rfl rfl ?_
  refine g_aload_n (pc' := 6) dX2_begins_5 rfl 0 rfl rfl ?_
  refine g_getR (pc' := 9) (a := 60) dX2_begins_6 rfl (PLk.lf fX2_25) o51 rfl ?_
  refine g_callv (pc' := 12) dX2_begins_9 rfl mX2_55 (ev_X5_load (k := 1) (c := 2) (i := 60) (x1 := x1) (s := s) (σ := σ) sf1 o60 q1 hs (d := d + 1)) o1 rfl (rm_ok (by omega) (by decide)) ⟨rfl, rfl⟩ ⟨Nat.zero_le _, Nat.zero_le _⟩ rfl rfl (Nat.le_of_ble_eq_true rfl) ?_
  refine g_aload_n (pc' := 13) dX2_begins_12 rfl 0 rfl rfl ?_
  refine g_getR (pc' := 16) (a := 1) dX2_begins_13 rfl (PLk.lf fX2_45) o51 rfl ?_
  refine g_iload_n (pc' := 17) dX2_begins_16 rfl 2 rfl rfl ?_
  refine g_aload_n (pc' := 18) dX2_begins_17 rfl 0 rfl rfl ?_
  refine g_getR (pc' := 21) (a := 61) dX2_begins_18 rfl (PLk.lf fX2_29) o51 rfl ?_
  refine g_callv (pc' := 24) dX2_begins_21 rfl mX2_55 (ev_X5_load (k := 1) (c := 2) (i := 61) (x1 := x2) (s := u) (σ := ldS 2 60 s σ) sf1 o61 q2 hu (d := d + 1)) o1 rfl (rm_ok (by omega) (by decide)) ⟨rfl, rfl⟩ ⟨Nat.zero_le _, Nat.zero_le _⟩ rfl rfl (Nat.le_of_ble_eq_true rfl) ?_
  refine g_aload_n (pc' := 25) dX2_begins_24 rfl 0 rfl rfl ?_
  refine g_getR (pc' := 28) (a := 52) dX2_begins_25 rfl (PLk.lf fX2_11) o51 rfl ?_
  refine g_iload_n (pc' := 29) dX2_begins_28 rfl 1 rfl rfl ?_
  refine g_aald (pc' := 30) (j := s) (a := (66 + 7 * s)) dX2_begins_29 rfl o52 (by decide) rfl (by decide) q1 hs (ak _ hs) ?_
  refine g_callr (pc' := 33) dX2_begins_30 rfl mX2_101 (ev_X3_kind (k := (66 + 7 * s)) (s := (66 + 7 * s + 1)) (h := (66 + 7 * s + 2)) (r := (66 + 7 * s + 3)) (e := (66 + 7 * s + 4)) (w := (66 + 7 * s + 5)) (p := (66 + 7 * s + 6)) (σ := ldS 2 61 u (ldS 2 60 s σ)) (kiN _ hs) (d := d + 2)) (kiN _ hs).1 rfl (rm_ok (by omega) (by decide)) ⟨rfl, rfl⟩ ⟨Nat.zero_le _, Nat.zero_le _⟩ rfl rfl (Nat.le_of_ble_eq_true rfl) ?_
  refine g_iconst (pc' := 34) (v := 3) dX2_begins_33 rfl (by decide) ?_
  refine g_icmp_ne (pc' := 37) (tgt := 54) dX2_begins_34 rfl (by decide) (fun (c1 : ¬ (rX3_kind (66 + 7 * s) (66 + 7 * s + 1) (66 + 7 * s + 2) (66 + 7 * s + 3) (66 + 7 * s + 4) (66 + 7 * s + 5) (66 + 7 * s + 6) (ldS 2 61 u (ldS 2 60 s σ)) : Int32) = 3) => ?_) (fun (c1 : (rX3_kind (66 + 7 * s) (66 + 7 * s + 1) (66 + 7 * s + 2) (66 + 7 * s + 3) (66 + 7 * s + 4) (66 + 7 * s + 5) (66 + 7 * s + 6) (ldS 2 61 u (ldS 2 60 s σ)) : Int32) = 3) => ?_)
  · refine g_iconst (pc' := 55) (v := 0) dX2_begins_54 rfl (by decide) ?_
    refine g_istore_n (pc' := 56) (j := 3) (lv' := [(3, .int (0)), (0, .ref (b + 51)), (1, .int (x1)), (2, .int (x2))]) dX2_begins_55 rfl rfl (by decide) rfl ?_
    refine g_iload_n (pc' := 57) dX2_begins_56 rfl 0 rfl rfl ?_
    refine g_if_eq (pc' := 60) (tgt := 80) dX2_begins_57 rfl (by decide) (fun _ => ?_) (fun z => absurd z (by decide))
    refine g_iconst (pc' := 81) (v := -1) dX2_begins_80 rfl (by decide) ?_
    exact g_iret dX2_begins_81 rfl ⟨rfl, rfl⟩ (by rw [show bgR s u σ = (-1, bg0 s u σ) by unfold bgR bg0; rw [if_neg (show ¬ σ.1 (66 + 7 * s) 2 = 3 from c1)]]; rfl)
  · refine g_aload_n (pc' := 38) dX2_begins_37 rfl 0 rfl rfl ?_
    refine g_getR (pc' := 41) (a := 52) dX2_begins_38 rfl (PLk.lf fX2_11) o51 rfl ?_
    refine g_iload_n (pc' := 42) dX2_begins_41 rfl 2 rfl rfl ?_
    refine g_aald (pc' := 43) (j := u) (a := (66 + 7 * u)) dX2_begins_42 rfl o52 (by decide) rfl (by decide) q2 hu (ak _ hu) ?_
    refine g_callr (pc' := 46) dX2_begins_43 rfl mX2_101 (ev_X3_kind (k := (66 + 7 * u)) (s := (66 + 7 * u + 1)) (h := (66 + 7 * u + 2)) (r := (66 + 7 * u + 3)) (e := (66 + 7 * u + 4)) (w := (66 + 7 * u + 5)) (p := (66 + 7 * u + 6)) (σ := ldS 2 61 u (ldS 2 60 s σ)) (kiN _ hu) (d := d + 2)) (kiN _ hu).1 rfl (rm_ok (by omega) (by decide)) ⟨rfl, rfl⟩ ⟨Nat.zero_le _, Nat.zero_le _⟩ rfl rfl (Nat.le_of_ble_eq_true rfl) ?_
    refine g_iconst (pc' := 47) (v := 3) dX2_begins_46 rfl (by decide) ?_
    refine g_icmp_ne (pc' := 50) (tgt := 54) dX2_begins_47 rfl (by decide) (fun (c3 : ¬ (rX3_kind (66 + 7 * u) (66 + 7 * u + 1) (66 + 7 * u + 2) (66 + 7 * u + 3) (66 + 7 * u + 4) (66 + 7 * u + 5) (66 + 7 * u + 6) (ldS 2 61 u (ldS 2 60 s σ)) : Int32) = 3) => ?_) (fun (c3 : (rX3_kind (66 + 7 * u) (66 + 7 * u + 1) (66 + 7 * u + 2) (66 + 7 * u + 3) (66 + 7 * u + 4) (66 + 7 * u + 5) (66 + 7 * u + 6) (ldS 2 61 u (ldS 2 60 s σ)) : Int32) = 3) => ?_)
    · refine g_iconst (pc' := 55) (v := 0) dX2_begins_54 rfl (by decide) ?_
      refine g_istore_n (pc' := 56) (j := 3) (lv' := [(3, .int (0)), (0, .ref (b + 51)), (1, .int (x1)), (2, .int (x2))]) dX2_begins_55 rfl rfl (by decide) rfl ?_
      refine g_iload_n (pc' := 57) dX2_begins_56 rfl 0 rfl rfl ?_
      refine g_if_eq (pc' := 60) (tgt := 80) dX2_begins_57 rfl (by decide) (fun _ => ?_) (fun z => absurd z (by decide))
      refine g_iconst (pc' := 81) (v := -1) dX2_begins_80 rfl (by decide) ?_
      exact g_iret dX2_begins_81 rfl ⟨rfl, rfl⟩ (by rw [show bgR s u σ = (-1, bg0 s u σ) by unfold bgR bg0; rw [if_pos (show σ.1 (66 + 7 * s) 2 = 3 from c1), if_neg (show ¬ σ.1 (66 + 7 * u) 2 = 3 from c3)]]; rfl)
    · refine g_iconst (pc' := 51) (v := 1) dX2_begins_50 rfl (by decide) ?_
      refine g_goto (tgt := 55) dX2_begins_51 (by decide) ?_
      refine g_istore_n (pc' := 56) (j := 3) (lv' := [(3, .int (1)), (0, .ref (b + 51)), (1, .int (x1)), (2, .int (x2))]) dX2_begins_55 rfl rfl (by decide) rfl ?_
      refine g_iload_n (pc' := 57) dX2_begins_56 rfl 0 rfl rfl ?_
      refine g_if_eq (pc' := 60) (tgt := 80) dX2_begins_57 rfl (by decide) (fun z => absurd z (by decide)) (fun _ => ?_)
      refine g_aload_n (pc' := 61) dX2_begins_60 rfl 1 rfl rfl ?_
      refine g_getR (pc' := 64) (a := 60) dX2_begins_61 rfl (PLk.lf fX2_25) o51 rfl ?_
      refine g_callr (pc' := 67) dX2_begins_64 rfl mX2_104 (ev_X6_hasNoneBelowZero (k := 60) (σ := ldS 2 61 u (ldS 2 60 s σ)) o60 (d := d + 2)) o60 rfl (rm_ok (by omega) (by decide)) ⟨rfl, rfl⟩ ⟨Nat.zero_le _, Nat.zero_le _⟩ rfl rfl (Nat.le_of_ble_eq_true rfl) ?_
      refine g_ifb_eq (pc' := 70) (tgt := 80) dX2_begins_67 rfl (by decide) (fun (c6 : (rX6_hasNoneBelowZero 60 (ldS 2 61 u (ldS 2 60 s σ))) = false) => ?_) (fun (c6 : (rX6_hasNoneBelowZero 60 (ldS 2 61 u (ldS 2 60 s σ))) = true) => ?_)
      · refine g_iconst (pc' := 81) (v := -1) dX2_begins_80 rfl (by decide) ?_
        exact g_iret dX2_begins_81 rfl ⟨rfl, rfl⟩ (by rw [show bgR s u σ = (-1, bg0 s u σ) by unfold bgR bg0; rw [if_pos (show σ.1 (66 + 7 * s) 2 = 3 from c1), if_pos (show σ.1 (66 + 7 * u) 2 = 3 from c3), if_neg (bf c6)]]; rfl)
      · refine g_aload_n (pc' := 71) dX2_begins_70 rfl 1 rfl rfl ?_
        refine g_getR (pc' := 74) (a := 61) dX2_begins_71 rfl (PLk.lf fX2_29) o51 rfl ?_
        refine g_callr (pc' := 77) dX2_begins_74 rfl mX2_104 (ev_X6_hasNoneBelowZero (k := 61) (σ := ldS 2 61 u (ldS 2 60 s σ)) o61 (d := d + 2)) o61 rfl (rm_ok (by omega) (by decide)) ⟨rfl, rfl⟩ ⟨Nat.zero_le _, Nat.zero_le _⟩ rfl rfl (Nat.le_of_ble_eq_true rfl) ?_
        refine g_ifb_ne (pc' := 80) (tgt := 82) dX2_begins_77 rfl (by decide) (fun (c7 : (rX6_hasNoneBelowZero 61 (ldS 2 61 u (ldS 2 60 s σ))) = true) => ?_) (fun (c7 : (rX6_hasNoneBelowZero 61 (ldS 2 61 u (ldS 2 60 s σ))) = false) => ?_)
        · refine g_aload_n (pc' := 83) dX2_begins_82 rfl 1 rfl rfl ?_
          refine g_getR (pc' := 86) (a := 64) dX2_begins_83 rfl (PLk.lf fX2_41) o51 rfl ?_
          refine g_aload_n (pc' := 87) dX2_begins_86 rfl 1 rfl rfl ?_
          refine g_getR (pc' := 90) (a := 60) dX2_begins_87 rfl (PLk.lf fX2_25) o51 rfl ?_
          refine g_callv (pc' := 93) dX2_begins_90 rfl mX2_108 (ev_X9_copyFrom (k := 64) (p := 65) (i := 60) (σ := ldS 2 61 u (ldS 2 60 s σ)) wo64 o60 (d := d + 1)) o64 rfl (rm_ok (by omega) (by decide)) ⟨rfl, rfl⟩ ⟨Nat.zero_le _, Nat.zero_le _⟩ rfl rfl (Nat.le_of_ble_eq_true rfl) ?_
          refine g_lconst (pc' := 94) (v := 0) dX2_begins_93 rfl (by decide) ?_
          refine g_lstore (pc' := 96) (j := 4) (lv' := [(4, .long (0)), (3, .int (1)), (0, .ref (b + 51)), (1, .int (x1)), (2, .int (x2))]) dX2_begins_94 rfl (by decide) rfl ?_
          refine g_iconst (pc' := 97) (v := 0) dX2_begins_96 rfl (by decide) ?_
          refine g_istore (pc' := 99) (j := 6) (lv' := [(6, .int (0)), (4, .long (0)), (3, .int (1)), (0, .ref (b + 51)), (1, .int (x1)), (2, .int (x2))]) dX2_begins_97 rfl (by decide) rfl ?_
          rw [show bgR s u σ = bgF 41 0 (sX9_copyFrom 64 65 60 (bg0 s u σ)) by unfold bgR bg0; rw [if_pos (show σ.1 (66 + 7 * s) 2 = 3 from c1), if_pos (show σ.1 (66 + 7 * u) 2 = 3 from c3), if_pos c6, if_pos c7]]
          refine g_sub [3, 1, 0] rfl ?_
          exact lp_bg 41 0 0 _ (by omega)
        · refine g_iconst (pc' := 81) (v := -1) dX2_begins_80 rfl (by decide) ?_
          exact g_iret dX2_begins_81 rfl ⟨rfl, rfl⟩ (by rw [show bgR s u σ = (-1, bg0 s u σ) by unfold bgR bg0; rw [if_pos (show σ.1 (66 + 7 * s) 2 = 3 from c1), if_pos (show σ.1 (66 + 7 * u) 2 = 3 from c3), if_pos c6, if_neg (bf c7)]]; rfl)
