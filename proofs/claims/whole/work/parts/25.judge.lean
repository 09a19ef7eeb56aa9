theorem WOk.fr {σ τ : Sg} {h : Nat} (e : τ.1 h = σ.1 h) (w : WOk σ h) : WOk τ h := by
  unfold WOk cnt stt at *
  rw [e]; exact w
theorem WOk.mk' {σ : Sg} {h n t : Nat} (a : σ.1 h 3 = nI n) (hn : n ≤ 40) (c : σ.1 h 4 = nI t) (ht : t ≤ 42) : WOk σ h := by
  unfold WOk cnt stt
  rw [a, c, nI_clamp (by omega), nI_clamp (by omega)]
  exact ⟨rfl, hn, rfl, ht⟩
theorem leastS_ok {k r n : Nat} (hn : n ≤ 40) : ∀ (m x t : Nat) (σ : Sg), σ.1 k 3 = nI n → σ.1 k 4 = nI t → t ≤ 42 → WOk (leastS k r n m x σ) k
  | 0, _, t, σ, a, c, ht => WOk.mk' a hn c ht
  | m + 1, x, t, σ, a, c, ht => by
    rw [leastS]
    split
    · rename_i hx
      split
      · exact leastS_ok hn m (x + 2) x _ (by dsimp only; rw [u2_j (by decide)]; exact a) (u2_eq _ _ _ _) (by omega)
      · exact leastS_ok hn m (x + 2) t σ a c ht
    · exact WOk.mk' a hn c ht
theorem rdG_ok {k r w p : Nat} (hkr : k ≠ r) : ∀ (m j : Nat) (σ : Sg), j + m = 40 → σ.1 k 3 = nI j → σ.1 k 4 = 0 → WOk (rdG k r w p m j σ) k
  | 0, j, σ, hj, a, c => leastS_ok (by omega) 20 2 0 σ a (c.trans nI_0.symm) (by omega)
  | m + 1, j, σ, hj, a, c => by
    rw [rdG]
    split
    · exact leastS_ok (by omega) 20 2 0 σ a (c.trans nI_0.symm) (by omega)
    · exact rdG_ok hkr m (j + 1) _ (by omega) (rdS_3 hkr a) ((rdS_4 hkr).trans c)
theorem read_ok {k r e w p i : Nat} {σ : Sg} (hkr : k ≠ r) : WOk (sX8_read k r e w p i σ) k := by
  unfold sX8_read rd0 sX8_clear
  refine rdG_ok hkr 40 0 _ (by omega) ?_ ?_
  · dsimp only; rw [u2_j (by decide), u2_eq]; exact nI_0.symm
  · exact u2_eq _ _ _ _
theorem clear_ok {k r e w p : Nat} {σ : Sg} : WOk (sX8_clear k r e w p σ) k := by
  unfold sX8_clear
  refine WOk.mk' (n := 0) (t := 0) ?_ (by omega) ?_ (by omega)
  · dsimp only; rw [u2_j (by decide), u2_eq]; exact nI_0.symm
  · dsimp only; rw [u2_eq]; exact nI_0.symm
theorem look_ok {k s h r e w p i : Nat} {σ : Sg} (hhr : h ≠ r) (q : WOk σ h) : WOk (sX3_lookAt k s h r e w p i σ) h := by
  unfold sX3_lookAt
  split
  · exact q
  · split
    · exact read_ok hhr
    · exact clear_ok
def laS (s : Nat) (σ : Sg) : Sg := sX3_lookAt (65 + 7 * s) (65 + 7 * s + 1) (65 + 7 * s + 2) (65 + 7 * s + 3) (65 + 7 * s + 4) (65 + 7 * s + 5) (65 + 7 * s + 6) 60 (ldS 2 60 s σ)
def laF : Nat → Nat → Sg → Sg
  | 0, _, σ => σ
  | m + 1, s, σ => laF m (s + 1) (laS s σ)
theorem laS_1 {s a : Nat} {σ : Sg} (h : a < 65) : (laS s σ).1 a = σ.1 a := by
  unfold laS
  rw [look_1 (by omega) (by omega) (by omega), lds_1]
def la0 (σ : Sg) : Sg := (u2 σ.1 51 6 (σ.1 1 1), σ.2)
theorem la0_z {σ : Sg} : (la0 σ).1 51 6 = σ.1 1 1 := by show u2 σ.1 51 6 (σ.1 1 1) 51 6 = σ.1 1 1; exact u2_eq _ _ _ _
def laR (n : Nat) (σ : Sg) : Sg := laF n 0 (la0 σ)
set_option maxRecDepth 100000 in
set_option maxHeartbeats 4000000 in
theorem lp_la {l : Launch} {b : Nat} {cy : Nat → ClassId} {D : va_G} {d : Nat}   {n : Nat}   (hn : n ≤ 12) : ∀ (m : Nat) (s : Nat) (σ : Sg), s + m = n → σ.1 51 6 = nI n → Gs l b cy D (d + 5) yX2_lookAround cX2_lookAround (Option.none : Option Jvm.ClassFile.FieldType) 3 none (laF m s σ) 10 [(0, .ref (b + 51)), (1, .ref (b + 1)), (2, .int (nI s))] [] σ := by
  intro m
  induction m with
  | zero =>
    intro s σ hs hz
    refine g_iload_n (pc' := 11) dX2_lookAround_10 rfl 2 rfl rfl ?_
    refine g_aload_n (pc' := 12) dX2_lookAround_11 rfl 0 rfl rfl ?_
    refine g_getI (pc' := 15) dX2_lookAround_12 rfl (PLk.lf fX2_42) o51 rfl ?_
    refine g_icmp_ge (pc' := 18) (tgt := 46) dX2_lookAround_15 rfl (by decide) (fun (c1 : (σ.1 51 6 : Int32) ≤ (nI s)) => ?_) (fun (c1 : ¬ (σ.1 51 6 : Int32) ≤ (nI s)) => ?_)
    · exact g_vret dX2_lookAround_46 rfl ⟨rfl, rfl⟩ rfl
    · exact absurd (show σ.1 51 6 ≤ nI s from by rw [hz]; exact (nI_leI (by omega) (by omega)).mpr (by omega)) c1
  | succ m ih =>
    intro s σ hs hz
    refine g_iload_n (pc' := 11) dX2_lookAround_10 rfl 2 rfl rfl ?_
    refine g_aload_n (pc' := 12) dX2_lookAround_11 rfl 0 rfl rfl ?_
    refine g_getI (pc' := 15) dX2_lookAround_12 rfl (PLk.lf fX2_42) o51 rfl ?_
    refine g_icmp_ge (pc' := 18) (tgt := 46) dX2_lookAround_15 rfl (by decide) (fun (c1 : (σ.1 51 6 : Int32) ≤ (nI s)) => ?_) (fun (c1 : ¬ (σ.1 51 6 : Int32) ≤ (nI s)) => ?_)
    · exact absurd (nle (a := n) (c := s) c1 hz rfl (by omega) (by omega)) (by omega)
    · refine g_aload_n (pc' := 19) dX2_lookAround_18 rfl 1 rfl rfl ?_
      refine g_iload_n (pc' := 20) dX2_lookAround_19 rfl 2 rfl rfl ?_
      refine g_aload_n (pc' := 21) dX2_lookAround_20 rfl 0 rfl rfl ?_
      refine g_getR (pc' := 24) (a := 60) dX2_lookAround_21 rfl (PLk.lf fX2_25) o51 rfl ?_
      refine g_callv (pc' := 27) dX2_lookAround_24 rfl mX2_51 (ev_X5_load (k := 1) (c := 2) (i := 60) (x1 := nI s) (s := s) (σ := σ) sf1 o60 rfl (by omega) (d := d + 3)) o1 rfl (rm_ok (by omega) (by decide)) ⟨rfl, rfl⟩ ⟨Nat.zero_le _, Nat.zero_le _⟩ rfl rfl (Nat.le_of_ble_eq_true rfl) ?_
      refine g_aload_n (pc' := 28) dX2_lookAround_27 rfl 0 rfl rfl ?_
      refine g_getR (pc' := 31) (a := 52) dX2_lookAround_28 rfl (PLk.lf fX2_11) o51 rfl ?_
      refine g_iload_n (pc' := 32) dX2_lookAround_31 rfl 2 rfl rfl ?_
      refine g_aald (pc' := 33) (j := s) (a := (65 + 7 * s)) dX2_lookAround_32 rfl o52 (by decide) rfl (by decide) rfl (by omega) (ak _ (show s < 12 by omega)) ?_
      refine g_aload_n (pc' := 34) dX2_lookAround_33 rfl 0 rfl rfl ?_
      refine g_getR (pc' := 37) (a := 60) dX2_lookAround_34 rfl (PLk.lf fX2_25) o51 rfl ?_
      refine g_callv (pc' := 40) dX2_lookAround_37 rfl mX2_55 (ev_X3_lookAt (k := (65 + 7 * s)) (s := (65 + 7 * s + 1)) (h := (65 + 7 * s + 2)) (r := (65 + 7 * s + 3)) (e := (65 + 7 * s + 4)) (w := (65 + 7 * s + 5)) (p := (65 + 7 * s + 6)) (i := 60) (σ := ldS 2 60 s σ) (kiN _ (show s < 12 by omega)) o60 (d := d)) (kiN _ (show s < 12 by omega)).1 rfl (rm_ok (by omega) (by decide)) ⟨rfl, rfl⟩ ⟨Nat.zero_le _, Nat.zero_le _⟩ rfl rfl (Nat.le_of_ble_eq_true rfl) ?_
      refine g_iinc (pc' := 43) (v := nI (s + 1)) (lv' := [(2, .int (nI (s + 1))), (0, .ref (b + 51)), (1, .ref (b + 1))]) dX2_lookAround_40 rfl 2 rfl (nI_1 s) (by decide) rfl ?_
      refine g_goto (tgt := 10) dX2_lookAround_43 (by decide) ?_
      refine g_sub [1, 2, 0] rfl ?_
      exact ih (s + 1) (laS s σ) (by omega) (by rw [laS_1 (by omega)]; exact hz)
set_option maxRecDepth 100000 in
set_option maxHeartbeats 4000000 in
theorem ev_X2_lookAround {l : Launch} {b : Nat} {cy : Nat → ClassId} {D : va_G} {d : Nat}   {n : Nat} {σ : Sg}  (hz : σ.1 1 1 = nI n) (hn : n ≤ 12) : Es l b cy D (d + 5) yX2_lookAround cX2_lookAround (Option.none : Option Jvm.ClassFile.FieldType) 3 [.ref (b + 51), .ref (b + 1)] σ none (laR n σ) := by
  refine Ev.of (by decide) (Nat.le_of_ble_eq_true rfl) rfl ?_
  refine g_aload_n (pc' := 1) dX2_lookAround_0 rfl 0 rfl rfl ?_
  refine g_aload_n (pc' := 2) dX2_lookAround_1 rfl 1 rfl rfl ?_
  refine g_callr (pc' := 5) dX2_lookAround_2 rfl mX2_46 (ev_X5_size (k := 1) (c := 2) (σ := σ) sf1 (d := d + 4)) o1 rfl (rm_ok (by omega) (by decide)) ⟨rfl, rfl⟩ ⟨Nat.zero_le _, Nat.zero_le _⟩ rfl rfl (Nat.le_of_ble_eq_true rfl) ?_
  refine g_putI (pc' := 8) dX2_lookAround_5 rfl fX2_42 o51 rfl ?_
  refine g_iconst (pc' := 9) (v := 0) dX2_lookAround_8 rfl (by decide) ?_
  refine g_istore_n (pc' := 10) (j := 2) (lv' := [(2, .int (0)), (0, .ref (b + 51)), (1, .ref (b + 1))]) dX2_lookAround_9 rfl rfl (by decide) rfl ?_
  refine g_sub [1, 2, 0] rfl ?_
  exact lp_la hn n 0 (la0 σ) (by omega) (la0_z.trans hz)
