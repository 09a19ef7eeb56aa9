theorem WOk.fr {σ τ : Sg} {h : Nat} (e : τ.1 h = σ.1 h) (w : WOk σ h) : WOk τ h := by
  unfold WOk cnt stt at *
  rw [e]; exact w
theorem WOk.mk' {σ : Sg} {h n t : Nat} (a : σ.1 h 3 = nI n) (hn : n ≤ 40) (c : σ.1 h 4 = nI t) (ht : t ≤ 42) : WOk σ h := by
  unfold WOk cnt stt
  rw [a, c, nI_clamp (by omega), nI_clamp (by omega)]
  exact ⟨rfl, hn, rfl, ht⟩
theorem leastS_ok {k r n : Nat} (hn : n ≤ 40) : ∀ (m x t : Nat) (σ : Sg), σ.1 k 3 = nI n → σ.1 k 4 = nI t → t ≤ 42 → WOk (leastS k r n m x σ) k
  | 0, _, t, σ, a, c, ht => WOk.mk' a hn c ht
  | m + 1, x, t, σ, a, c, ht => by
    rw [leastS]
    split
    · rename_i hx
      split
      · exact leastS_ok hn m (x + 2) x _ (by dsimp only; rw [u2_j (by decide)]; exact a) (u2_eq _ _ _ _) (by omega)
      · exact leastS_ok hn m (x + 2) t σ a c ht
    · exact WOk.mk' a hn c ht
theorem rdG_ok {k r w p : Nat} (hkr : k ≠ r) : ∀ (m j : Nat) (σ : Sg), j + m = 40 → σ.1 k 3 = nI j → σ.1 k 4 = 0 → WOk (rdG k r w p m j σ) k
  | 0, j, σ, hj, a, c => leastS_ok (by omega) 20 2 0 σ a (c.trans nI_0.symm) (by omega)
  | m + 1, j, σ, hj, a, c => by
    rw [rdG]
    split
    · exact leastS_ok (by omega) 20 2 0 σ a (c.trans nI_0.symm) (by omega)
    · exact rdG_ok hkr m (j + 1) _ (by omega) (rdS_3 hkr a) ((rdS_4 hkr).trans c)
theorem read_ok {k r e w p i : Nat} {σ : Sg} (hkr : k ≠ r) : WOk (sX8_read k r e w p i σ) k := by
  unfold sX8_read rd0 sX8_clear
  refine rdG_ok hkr 40 0 _ (by omega) ?_ ?_
  · dsimp only; rw [u2_j (by decide), u2_eq]; exact nI_0.symm
  · exact u2_eq _ _ _ _
theorem clear_ok {k r e w p : Nat} {σ : Sg} : WOk (sX8_clear k r e w p σ) k := by
  unfold sX8_clear
  refine WOk.mk' (n := 0) (t := 0) ?_ (by omega) ?_ (by omega)
  · dsimp only; rw [u2_j (by decide), u2_eq]; exact nI_0.symm
  · dsimp only; rw [u2_eq]; exact nI_0.symm
theorem look_ok {k s h r e w p i : Nat} {σ : Sg} (hhr : h ≠ r) (q : WOk σ h) : WOk (sX3_lookAt k s h r e w p i σ) h := by
  unfold sX3_lookAt
  split
  · exact q
  · split
    · exact read_ok hhr
    · exact clear_ok
def laS (s : Nat) (σ : Sg) : Sg := sX3_lookAt (66 + 7 * s) (66 + 7 * s + 1) (66 + 7 * s + 2) (66 + 7 * s + 3) (66 + 7 * s + 4) (66 + 7 * s + 5) (66 + 7 * s + 6) 60 (ldS 2 60 s σ)
def laF : Nat → Nat → Sg → Sg
  | 0, _, σ => σ
  | m + 1, s, σ => laF m (s + 1) (laS s σ)
theorem laS_1 {s a : Nat} {σ : Sg} (h : a < 66) : (laS s σ).1 a = σ.1 a := by
  unfold laS
  rw [look_1 (by omega) (by omega) (by omega), lds_1]
set_option maxRecDepth 100000 in
set_option maxHeartbeats 4000000 in
theorem lp_la {l : Launch} {b : Nat} {cy : Nat → ClassId} {D : va_G} {d : Nat}   {n : Nat}   (hn : n ≤ 12) : ∀ (m : Nat) (s : Nat) (σ : Sg), s + m = n → σ.1 1 1 = nI n → Gs l b cy D (d + 5) yX2_lookAround cX2_lookAround (Option.none : Option Jvm.ClassFile.FieldType) 2 none (laF m s σ) 2 [(0, .ref (b + 51)), (1, .int (nI s))] [] σ := by
  intro m
  induction m with
  | zero =>
    intro s σ hs hz
    refine g_iload_n (pc' := 3) dX2_lookAround_2 rfl 1 rfl rfl ?_
    refine g_aload_n (pc' := 4) dX2_lookAround_3 rfl 0 rfl rfl ?_
    refine g_getR (pc' := 7) (a := 1) dX2_lookAround_4 rfl (PLk.lf fX2_45) o51 rfl ?_
    refine g_callr (pc' := 10) dX2_lookAround_7 rfl mX2_49 (ev_X5_size (k := 1) (c := 2) (σ := σ) sf1 (d := d + 4)) o1 rfl (rm_ok (by omega) (by decide)) ⟨rfl, rfl⟩ ⟨Nat.zero_le _, Nat.zero_le _⟩ rfl rfl (Nat.le_of_ble_eq_true rfl) ?_
    refine g_icmp_ge (pc' := 13) (tgt := 44) dX2_lookAround_10 rfl (by decide) (fun (c1 : (rX5_size 1 2 σ : Int32) ≤ (nI s)) => ?_) (fun (c1 : ¬ (rX5_size 1 2 σ : Int32) ≤ (nI s)) => ?_)
    · exact g_vret dX2_lookAround_44 rfl ⟨rfl, rfl⟩ rfl
    · exact absurd (show rX5_size 1 2 σ ≤ nI s from by unfold rX5_size; rw [hz]; exact (nI_leI (by omega) (by omega)).mpr (by omega)) c1
  | succ m ih =>
    intro s σ hs hz
    refine g_iload_n (pc' := 3) dX2_lookAround_2 rfl 1 rfl rfl ?_
    refine g_aload_n (pc' := 4) dX2_lookAround_3 rfl 0 rfl rfl ?_
    refine g_getR (pc' := 7) (a := 1) dX2_lookAround_4 rfl (PLk.lf fX2_45) o51 rfl ?_
    refine g_callr (pc' := 10) dX2_lookAround_7 rfl mX2_49 (ev_X5_size (k := 1) (c := 2) (σ := σ) sf1 (d := d + 4)) o1 rfl (rm_ok (by omega) (by decide)) ⟨rfl, rfl⟩ ⟨Nat.zero_le _, Nat.zero_le _⟩ rfl rfl (Nat.le_of_ble_eq_true rfl) ?_
    refine g_icmp_ge (pc' := 13) (tgt := 44) dX2_lookAround_10 rfl (by decide) (fun (c1 : (rX5_size 1 2 σ : Int32) ≤ (nI s)) => ?_) (fun (c1 : ¬ (rX5_size 1 2 σ : Int32) ≤ (nI s)) => ?_)
    · exact absurd (nle (a := n) (c := s) c1 hz rfl (by omega) (by omega)) (by omega)
    · refine g_aload_n (pc' := 14) dX2_lookAround_13 rfl 0 rfl rfl ?_
      refine g_getR (pc' := 17) (a := 1) dX2_lookAround_14 rfl (PLk.lf fX2_45) o51 rfl ?_
      refine g_iload_n (pc' := 18) dX2_lookAround_17 rfl 1 rfl rfl ?_
      refine g_aload_n (pc' := 19) dX2_lookAround_18 rfl 0 rfl rfl ?_
      refine g_getR (pc' := 22) (a := 60) dX2_lookAround_19 rfl (PLk.lf fX2_25) o51 rfl ?_
      refine g_callv (pc' := 25) dX2_lookAround_22 rfl mX2_55 (ev_X5_load (k := 1) (c := 2) (i := 60) (x1 := nI s) (s := s) (σ := σ) sf1 o60 rfl (by omega) (d := d + 3)) o1 rfl (rm_ok (by omega) (by decide)) ⟨rfl, rfl⟩ ⟨Nat.zero_le _, Nat.zero_le _⟩ rfl rfl (Nat.le_of_ble_eq_true rfl) ?_
      refine g_aload_n (pc' := 26) dX2_lookAround_25 rfl 0 rfl rfl ?_
      refine g_getR (pc' := 29) (a := 52) dX2_lookAround_26 rfl (PLk.lf fX2_11) o51 rfl ?_
      refine g_iload_n (pc' := 30) dX2_lookAround_29 rfl 1 rfl rfl ?_
      refine g_aald (pc' := 31) (j := s) (a := (66 + 7 * s)) dX2_lookAround_30 rfl o52 (by decide) rfl (by decide) rfl (by omega) (ak _ (show s < 12 by omega)) ?_
      refine g_aload_n (pc' := 32) dX2_lookAround_31 rfl 0 rfl rfl ?_
      refine g_getR (pc' := 35) (a := 60) dX2_lookAround_32 rfl (PLk.lf fX2_25) o51 rfl ?_
      refine g_callv (pc' := 38) dX2_lookAround_35 rfl mX2_59 (ev_X3_lookAt (k := (66 + 7 * s)) (s := (66 + 7 * s + 1)) (h := (66 + 7 * s + 2)) (r := (66 + 7 * s + 3)) (e := (66 + 7 * s + 4)) (w := (66 + 7 * s + 5)) (p := (66 + 7 * s + 6)) (i := 60) (σ := ldS 2 60 s σ) (kiN _ (show s < 12 by omega)) o60 (d := d)) (kiN _ (show s < 12 by omega)).1 rfl (rm_ok (by omega) (by decide)) ⟨rfl, rfl⟩ ⟨Nat.zero_le _, Nat.zero_le _⟩ rfl rfl (Nat.le_of_ble_eq_true rfl) ?_
      refine g_iinc (pc' := 41) (v := nI (s + 1)) (lv' := [(1, .int (nI (s + 1))), (0, .ref (b + 51))]) dX2_lookAround_38 rfl 1 rfl (nI_1 s) (by decide) rfl ?_
      refine g_goto (tgt := 2) dX2_lookAround_41 (by decide) ?_
      refine g_sub [1, 0] rfl ?_
      exact ih (s + 1) (laS s σ) (by omega) (by rw [laS_1 (by omega)]; exact hz)
set_option maxRecDepth 100000 in
set_option maxHeartbeats 4000000 in
theorem ev_X2_lookAround {l : Launch} {b : Nat} {cy : Nat → ClassId} {D : va_G} {d : Nat}   {n : Nat} {σ : Sg}  (hz : σ.1 1 1 = nI n) (hn : n ≤ 12) : Es l b cy D (d + 5) yX2_lookAround cX2_lookAround (Option.none : Option Jvm.ClassFile.FieldType) 2 [.ref (b + 51)] σ none (laF n 0 σ) := by
  refine Ev.of (by decide) (Nat.le_of_ble_eq_true rfl) rfl ?_
  refine g_iconst (pc' := 1) (v := 0) dX2_lookAround_0 rfl (by decide) ?_
  refine g_istore_n (pc' := 2) (j := 1) (lv' := [(1, .int (0)), (0, .ref (b + 51))]) dX2_lookAround_1 rfl rfl (by decide) rfl ?_
  refine g_sub [1, 0] rfl ?_
  exact lp_la hn n 0 σ (by omega) hz
