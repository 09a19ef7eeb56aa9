def rdA (e i : Nat) (σ : Sg) : Sg := if rX6_trace e (sX6_copyFrom e i σ) < 0 then sX6_changeSigns e (sX6_copyFrom e i σ) else sX6_copyFrom e i σ
def rdB (e w p i : Nat) (σ : Sg) : Sg := sX9_turnFirstRun w p (sX9_copyFrom w p e (sX6_carryToProduct e (rdA e i σ)))
def rdC (e w p i : Nat) (σ : Sg) : Sg := if rX9_beginsWithR w p (rdB e w p i σ) = true then rdB e w p i σ else sX9_turnFirstRun w p (rdB e w p i σ)
def rd0 (k r e w p i : Nat) (σ : Sg) : Sg := sX8_clear k r e w p (rdC e w p i σ)
def rdS (k r w p j : Nat) (σ : Sg) : Sg := (u2 (u2 (sX9_dropFirstRun w p σ).1 r j (rX9_dropFirstRun w p σ).toInt32) k 3 ((u2 (sX9_dropFirstRun w p σ).1 r j (rX9_dropFirstRun w p σ).toInt32) k 3 + 1), (sX9_dropFirstRun w p σ).2)
def rdG (k r w p : Nat) : Nat → Nat → Sg → Sg
  | 0, j, σ => leastS k r j 20 2 σ
  | m + 1, j, σ => if rX9_isEmpty w p σ = true then leastS k r j 20 2 σ else rdG k r w p m (j + 1) (rdS k r w p j σ)
def sX8_read (k r e w p i : Nat) (σ : Sg) : Sg := rdG k r w p 40 0 (rd0 k r e w p i σ)
theorem drop_1 (w p : Nat) (σ : Sg) : (sX9_dropFirstRun w p σ).1 = σ.1 := by unfold sX9_dropFirstRun; split <;> rfl
theorem rdS_3 {k r w p j : Nat} {σ : Sg} (hkr : k ≠ r) (hc : σ.1 k 3 = nI j) : (rdS k r w p j σ).1 k 3 = nI (j + 1) := by
  unfold rdS
  show u2 _ k 3 _ k 3 = _
  rw [u2_eq, u2_k hkr, drop_1, hc, nI_1]
theorem rdS_4 {k r w p j : Nat} {σ : Sg} (hkr : k ≠ r) : (rdS k r w p j σ).1 k 4 = σ.1 k 4 := by
  unfold rdS
  show u2 _ k 3 _ k 4 = _
  rw [u2_j (by decide), u2_k hkr, drop_1]
set_option maxRecDepth 100000 in
set_option maxHeartbeats 4000000 in
theorem lp_read {l : Launch} {b : Nat} {cy : Nat → ClassId} {D : va_G} {d : Nat} {k : Nat} {r : Nat} {e : Nat} {w : Nat} {p : Nat} {i : Nat}   (hk : Wh k r e w p) (hi : Sq i)  : ∀ (m : Nat) (j : Nat) (σ : Sg), j + m = 40 → σ.1 k 3 = nI j → σ.1 k 4 = 0 → Gs l b cy D (d + 3) yX8_read cX8_read (Option.none : Option Jvm.ClassFile.FieldType) 2 none (rdG k r w p m j σ) 75 [(0, .ref (b + k))] [] σ := by
  intro m
  induction m with
  | zero =>
    intro j σ hj hc ht
    refine g_aload_n (pc' := 76) dX8_read_75 rfl 0 rfl rfl ?_
    refine g_getI (pc' := 79) dX8_read_76 rfl (PLk.lf fX8_29) hk.1 rfl ?_
    refine g_bipush (pc' := 81) (v := 40) dX8_read_79 rfl (by decide) ?_
    refine g_icmp_ge (pc' := 84) (tgt := 124) dX8_read_81 rfl (by decide) (fun (c1 : (40 : Int32) ≤ (σ.1 k 3)) => ?_) (fun (c1 : ¬ (40 : Int32) ≤ (σ.1 k 3)) => ?_)
    · refine g_aload_n (pc' := 125) dX8_read_124 rfl 0 rfl rfl ?_
      refine g_callv (pc' := 128) dX8_read_125 rfl mX8_67 (ev_X8_findLeastStart (k := k) (r := r) (e := e) (w := w) (p := p) (n := j) (t := 0) (σ := σ) hk hc (by omega) (ht.trans nI_0.symm) (by omega) (d := d + 1)) hk.1 rfl (rm_ok (by omega) (by decide)) ⟨rfl, rfl⟩ ⟨Nat.zero_le _, Nat.zero_le _⟩ rfl rfl (Nat.le_of_ble_eq_true rfl) ?_
      exact g_vret dX8_read_128 rfl ⟨rfl, rfl⟩ rfl
    · exact absurd (by rw [hc]; exact (nI_leI (a := 40) (by omega) (by omega)).mpr (by omega)) c1
  | succ m ih =>
    intro j σ hj hc ht
    refine g_aload_n (pc' := 76) dX8_read_75 rfl 0 rfl rfl ?_
    refine g_getI (pc' := 79) dX8_read_76 rfl (PLk.lf fX8_29) hk.1 rfl ?_
    refine g_bipush (pc' := 81) (v := 40) dX8_read_79 rfl (by decide) ?_
    refine g_icmp_ge (pc' := 84) (tgt := 124) dX8_read_81 rfl (by decide) (fun (c1 : (40 : Int32) ≤ (σ.1 k 3)) => ?_) (fun (c1 : ¬ (40 : Int32) ≤ (σ.1 k 3)) => ?_)
    · exact absurd (nle (a := 40) (c := j) c1 rfl hc (by omega) (by omega)) (by omega)
    · refine g_aload_n (pc' := 85) dX8_read_84 rfl 0 rfl rfl ?_
      refine g_getR (pc' := 88) (a := w) dX8_read_85 rfl (PLk.lf fX8_25) hk.1 rfl ?_
      refine g_callr (pc' := 91) dX8_read_88 rfl mX8_61 (ev_X9_isEmpty (k := w) (p := p) (σ := σ) hk.2.2.2 (d := d + 1)) hk.2.2.2.1 rfl (rm_ok (by omega) (by decide)) ⟨rfl, rfl⟩ ⟨Nat.zero_le _, Nat.zero_le _⟩ rfl rfl (Nat.le_of_ble_eq_true rfl) ?_
      refine g_ifb_ne (pc' := 94) (tgt := 124) dX8_read_91 rfl (by decide) (fun (c2 : (rX9_isEmpty w p σ) = true) => ?_) (fun (c2 : (rX9_isEmpty w p σ) = false) => ?_)
      · refine g_aload_n (pc' := 125) dX8_read_124 rfl 0 rfl rfl ?_
        refine g_callv (pc' := 128) dX8_read_125 rfl mX8_67 (ev_X8_findLeastStart (k := k) (r := r) (e := e) (w := w) (p := p) (n := j) (t := 0) (σ := σ) hk hc (by omega) (ht.trans nI_0.symm) (by omega) (d := d + 1)) hk.1 rfl (rm_ok (by omega) (by decide)) ⟨rfl, rfl⟩ ⟨Nat.zero_le _, Nat.zero_le _⟩ rfl rfl (Nat.le_of_ble_eq_true rfl) ?_
        exact g_vret dX8_read_128 rfl ⟨rfl, rfl⟩ (by simp only [rdG, if_pos c2])
      · refine g_aload_n (pc' := 95) dX8_read_94 rfl 0 rfl rfl ?_
        refine g_getR (pc' := 98) (a := r) dX8_read_95 rfl (PLk.lf fX8_9) hk.1 rfl ?_
        refine g_aload_n (pc' := 99) dX8_read_98 rfl 0 rfl rfl ?_
        refine g_getI (pc' := 102) dX8_read_99 rfl (PLk.lf fX8_29) hk.1 rfl ?_
        refine g_aload_n (pc' := 103) dX8_read_102 rfl 0 rfl rfl ?_
        refine g_getR (pc' := 106) (a := w) dX8_read_103 rfl (PLk.lf fX8_25) hk.1 rfl ?_
        refine g_callr (pc' := 109) dX8_read_106 rfl mX8_64 (ev_X9_dropFirstRun (k := w) (p := p) (σ := σ) hk.2.2.2 (d := d)) hk.2.2.2.1 rfl (rm_ok (by omega) (by decide)) ⟨rfl, rfl⟩ ⟨Nat.zero_le _, Nat.zero_le _⟩ rfl rfl (Nat.le_of_ble_eq_true rfl) ?_
        refine g_l2i (pc' := 110) dX8_read_109 rfl ?_
        refine g_iast (pc' := 111) (j := j) dX8_read_110 rfl (by decide) hk.2.1 (by decide) hc (by omega) ?_
        refine g_aload_n (pc' := 112) dX8_read_111 rfl 0 rfl rfl ?_
        refine g_dup (pc' := 113) dX8_read_112 rfl rfl ?_
        refine g_getI (pc' := 116) dX8_read_113 rfl (PLk.lf fX8_29) hk.1 rfl ?_
        refine g_iconst (pc' := 117) (v := 1) dX8_read_116 rfl (by decide) ?_
        refine g_iadd (pc' := 118) dX8_read_117 rfl ?_
        refine g_putI (pc' := 121) dX8_read_118 rfl fX8_29 hk.1 rfl ?_
        refine g_goto (tgt := 75) dX8_read_121 (by decide) ?_
        rw [show rdG k r w p (m + 1) j σ = rdG k r w p m (j + 1) (rdS k r w p j σ) by simp only [rdG, if_neg (bf c2)]]
        refine g_sub [0] rfl ?_
        exact ih (j + 1) (rdS k r w p j σ) (by omega) (rdS_3 (or_ne hk.1 hk.2.1) hc) ((rdS_4 (or_ne hk.1 hk.2.1)).trans ht)
set_option maxRecDepth 100000 in
set_option maxHeartbeats 4000000 in
theorem ev_X8_read {l : Launch} {b : Nat} {cy : Nat → ClassId} {D : va_G} {d : Nat} {k : Nat} {r : Nat} {e : Nat} {w : Nat} {p : Nat} {i : Nat}   {σ : Sg} (hk : Wh k r e w p) (hi : Sq i)  : Es l b cy D (d + 3) yX8_read cX8_read (Option.none : Option Jvm.ClassFile.FieldType) 2 [.ref (b + k), .ref (b + i)] σ none (sX8_read k r e w p i σ) := by
  refine Ev.of (by decide) (Nat.le_of_ble_eq_true rfl) rfl ?_
  refine g_aload_n (pc' := 1) dX8_read_0 rfl 0 rfl rfl ?_
  refine g_getR (pc' := 4) (a := e) dX8_read_1 rfl (PLk.lf fX8_18) hk.1 rfl ?_
  refine g_aload_n (pc' := 5) dX8_read_4 rfl 1 rfl rfl ?_
  refine g_callv (pc' := 8) dX8_read_5 rfl mX8_36 (ev_X6_copyFrom (k := e) (i := i) (σ := σ) hk.2.2.1 hi (d := d + 2)) hk.2.2.1 rfl (rm_ok (by omega) (by decide)) ⟨rfl, rfl⟩ ⟨Nat.zero_le _, Nat.zero_le _⟩ rfl rfl (Nat.le_of_ble_eq_true rfl) ?_
  refine g_aload_n (pc' := 9) dX8_read_8 rfl 0 rfl rfl ?_
  refine g_getR (pc' := 12) (a := e) dX8_read_9 rfl (PLk.lf fX8_18) hk.1 rfl ?_
  refine g_callr (pc' := 15) dX8_read_12 rfl mX8_40 (ev_X6_trace (k := e) (σ := sX6_copyFrom e i σ) hk.2.2.1 (d := d + 2)) hk.2.2.1 rfl (rm_ok (by omega) (by decide)) ⟨rfl, rfl⟩ ⟨Nat.zero_le _, Nat.zero_le _⟩ rfl rfl (Nat.le_of_ble_eq_true rfl) ?_
  refine g_lconst (pc' := 16) (v := 0) dX8_read_15 rfl (by decide) ?_
  refine g_lif_ge (pc' := 20) (tgt := 27) dX8_read_16 dX8_read_17 rfl (by decide) (fun (c1 : ¬ (rX6_trace e (sX6_copyFrom e i σ) : Int64) < 0) => ?_) (fun (c1 : (rX6_trace e (sX6_copyFrom e i σ) : Int64) < 0) => ?_)
  · refine g_aload_n (pc' := 28) dX8_read_27 rfl 0 rfl rfl ?_
    refine g_getR (pc' := 31) (a := e) dX8_read_28 rfl (PLk.lf fX8_18) hk.1 rfl ?_
    refine g_callv (pc' := 34) dX8_read_31 rfl mX8_47 (ev_X6_carryToProduct (k := e) (σ := sX6_copyFrom e i σ) hk.2.2.1 (d := d)) hk.2.2.1 rfl (rm_ok (by omega) (by decide)) ⟨rfl, rfl⟩ ⟨Nat.zero_le _, Nat.zero_le _⟩ rfl rfl (Nat.le_of_ble_eq_true rfl) ?_
    refine g_aload_n (pc' := 35) dX8_read_34 rfl 0 rfl rfl ?_
    refine g_getR (pc' := 38) (a := w) dX8_read_35 rfl (PLk.lf fX8_25) hk.1 rfl ?_
    refine g_aload_n (pc' := 39) dX8_read_38 rfl 0 rfl rfl ?_
    refine g_getR (pc' := 42) (a := e) dX8_read_39 rfl (PLk.lf fX8_18) hk.1 rfl ?_
    refine g_callv (pc' := 45) dX8_read_42 rfl mX8_50 (ev_X9_copyFrom (k := w) (p := p) (i := e) (σ := sX6_carryToProduct e (sX6_copyFrom e i σ)) hk.2.2.2 hk.2.2.1 (d := d + 1)) hk.2.2.2.1 rfl (rm_ok (by omega) (by decide)) ⟨rfl, rfl⟩ ⟨Nat.zero_le _, Nat.zero_le _⟩ rfl rfl (Nat.le_of_ble_eq_true rfl) ?_
    refine g_aload_n (pc' := 46) dX8_read_45 rfl 0 rfl rfl ?_
    refine g_getR (pc' := 49) (a := w) dX8_read_46 rfl (PLk.lf fX8_25) hk.1 rfl ?_
    refine g_callr (pc' := 52) dX8_read_49 rfl mX8_51 (ev_X9_turnFirstRun (k := w) (p := p) (σ := sX9_copyFrom w p e (sX6_carryToProduct e (sX6_copyFrom e i σ))) hk.2.2.2 (d := d)) hk.2.2.2.1 rfl (rm_ok (by omega) (by decide)) ⟨rfl, rfl⟩ ⟨Nat.zero_le _, Nat.zero_le _⟩ rfl rfl (Nat.le_of_ble_eq_true rfl) ?_
    refine g_pop2 (pc' := 53) dX8_read_52 rfl rfl ?_
    refine g_aload_n (pc' := 54) dX8_read_53 rfl 0 rfl rfl ?_
    refine g_getR (pc' := 57) (a := w) dX8_read_54 rfl (PLk.lf fX8_25) hk.1 rfl ?_
    refine g_callr (pc' := 60) dX8_read_57 rfl mX8_54 (ev_X9_beginsWithR (k := w) (p := p) (σ := sX9_turnFirstRun w p (sX9_copyFrom w p e (sX6_carryToProduct e (sX6_copyFrom e i σ)))) hk.2.2.2 (d := d + 2)) hk.2.2.2.1 rfl (rm_ok (by omega) (by decide)) ⟨rfl, rfl⟩ ⟨Nat.zero_le _, Nat.zero_le _⟩ rfl rfl (Nat.le_of_ble_eq_true rfl) ?_
    refine g_ifb_ne (pc' := 63) (tgt := 71) dX8_read_60 rfl (by decide) (fun (c2 : (rX9_beginsWithR w p (sX9_turnFirstRun w p (sX9_copyFrom w p e (sX6_carryToProduct e (sX6_copyFrom e i σ))))) = true) => ?_) (fun (c2 : (rX9_beginsWithR w p (sX9_turnFirstRun w p (sX9_copyFrom w p e (sX6_carryToProduct e (sX6_copyFrom e i σ))))) = false) => ?_)
    · refine g_aload_n (pc' := 72) dX8_read_71 rfl 0 rfl rfl ?_
      refine g_callv (pc' := 75) dX8_read_72 rfl mX8_58 (ev_X8_clear (k := k) (r := r) (e := e) (w := w) (p := p) (σ := sX9_turnFirstRun w p (sX9_copyFrom w p e (sX6_carryToProduct e (sX6_copyFrom e i σ)))) hk (d := d + 2)) hk.1 rfl (rm_ok (by omega) (by decide)) ⟨rfl, rfl⟩ ⟨Nat.zero_le _, Nat.zero_le _⟩ rfl rfl (Nat.le_of_ble_eq_true rfl) ?_
      rw [show sX8_read k r e w p i σ = rdG k r w p 40 0 (sX8_clear k r e w p (sX9_turnFirstRun w p (sX9_copyFrom w p e (sX6_carryToProduct e (sX6_copyFrom e i σ))))) by unfold sX8_read rd0 rdC rdB rdA; rw [if_neg c1]; rw [if_pos c2]]
      refine g_sub [0] rfl ?_
      exact lp_read hk hi 40 0 (sX8_clear k r e w p (sX9_turnFirstRun w p (sX9_copyFrom w p e (sX6_carryToProduct e (sX6_copyFrom e i σ))))) (by omega) (by show u2 _ k 4 _ k 3 = _; rw [u2_j (by decide), u2_eq]; exact nI_0.symm) (u2_eq _ _ _ _)
    · refine g_aload_n (pc' := 64) dX8_read_63 rfl 0 rfl rfl ?_
      refine g_getR (pc' := 67) (a := w) dX8_read_64 rfl (PLk.lf fX8_25) hk.1 rfl ?_
      refine g_callr (pc' := 70) dX8_read_67 rfl mX8_51 (ev_X9_turnFirstRun (k := w) (p := p) (σ := sX9_turnFirstRun w p (sX9_copyFrom w p e (sX6_carryToProduct e (sX6_copyFrom e i σ)))) hk.2.2.2 (d := d)) hk.2.2.2.1 rfl (rm_ok (by omega) (by decide)) ⟨rfl, rfl⟩ ⟨Nat.zero_le _, Nat.zero_le _⟩ rfl rfl (Nat.le_of_ble_eq_true rfl) ?_
      refine g_pop2 (pc' := 71) dX8_read_70 rfl rfl ?_
      refine g_aload_n (pc' := 72) dX8_read_71 rfl 0 rfl rfl ?_
      refine g_callv (pc' := 75) dX8_read_72 rfl mX8_58 (ev_X8_clear (k := k) (r := r) (e := e) (w := w) (p := p) (σ := sX9_turnFirstRun w p (sX9_turnFirstRun w p (sX9_copyFrom w p e (sX6_carryToProduct e (sX6_copyFrom e i σ))))) hk (d := d + 2)) hk.1 rfl (rm_ok (by omega) (by decide)) ⟨rfl, rfl⟩ ⟨Nat.zero_le _, Nat.zero_le _⟩ rfl rfl (Nat.le_of_ble_eq_true rfl) ?_
      rw [show sX8_read k r e w p i σ = rdG k r w p 40 0 (sX8_clear k r e w p (sX9_turnFirstRun w p (sX9_turnFirstRun w p (sX9_copyFrom w p e (sX6_carryToProduct e (sX6_copyFrom e i σ)))))) by unfold sX8_read rd0 rdC rdB rdA; rw [if_neg c1]; rw [if_neg (bf c2)]]
      refine g_sub [0] rfl ?_
      exact lp_read hk hi 40 0 (sX8_clear k r e w p (sX9_turnFirstRun w p (sX9_turnFirstRun w p (sX9_copyFrom w p e (sX6_carryToProduct e (sX6_copyFrom e i σ)))))) (by omega) (by show u2 _ k 4 _ k 3 = _; rw [u2_j (by decide), u2_eq]; exact nI_0.symm) (u2_eq _ _ _ _)
  · refine g_aload_n (pc' := 21) dX8_read_20 rfl 0 rfl rfl ?_
    refine g_getR (pc' := 24) (a := e) dX8_read_21 rfl (PLk.lf fX8_18) hk.1 rfl ?_
    refine g_callv (pc' := 27) dX8_read_24 rfl mX8_44 (ev_X6_changeSigns (k := e) (σ := sX6_copyFrom e i σ) hk.2.2.1 (d := d + 1)) hk.2.2.1 rfl (rm_ok (by omega) (by decide)) ⟨rfl, rfl⟩ ⟨Nat.zero_le _, Nat.zero_le _⟩ rfl rfl (Nat.le_of_ble_eq_true rfl) ?_
    refine g_aload_n (pc' := 28) dX8_read_27 rfl 0 rfl rfl ?_
    refine g_getR (pc' := 31) (a := e) dX8_read_28 rfl (PLk.lf fX8_18) hk.1 rfl ?_
    refine g_callv (pc' := 34) dX8_read_31 rfl mX8_47 (ev_X6_carryToProduct (k := e) (σ := sX6_changeSigns e (sX6_copyFrom e i σ)) hk.2.2.1 (d := d)) hk.2.2.1 rfl (rm_ok (by omega) (by decide)) ⟨rfl, rfl⟩ ⟨Nat.zero_le _, Nat.zero_le _⟩ rfl rfl (Nat.le_of_ble_eq_true rfl) ?_
    refine g_aload_n (pc' := 35) dX8_read_34 rfl 0 rfl rfl ?_
    refine g_getR (pc' := 38) (a := w) dX8_read_35 rfl (PLk.lf fX8_25) hk.1 rfl ?_
    refine g_aload_n (pc' := 39) dX8_read_38 rfl 0 rfl rfl ?_
    refine g_getR (pc' := 42) (a := e) dX8_read_39 rfl (PLk.lf fX8_18) hk.1 rfl ?_
    refine g_callv (pc' := 45) dX8_read_42 rfl mX8_50 (ev_X9_copyFrom (k := w) (p := p) (i := e) (σ := sX6_carryToProduct e (sX6_changeSigns e (sX6_copyFrom e i σ))) hk.2.2.2 hk.2.2.1 (d := d + 1)) hk.2.2.2.1 rfl (rm_ok (by omega) (by decide)) ⟨rfl, rfl⟩ ⟨Nat.zero_le _, Nat.zero_le _⟩ rfl rfl (Nat.le_of_ble_eq_true rfl) ?_
    refine g_aload_n (pc' := 46) dX8_read_45 rfl 0 rfl rfl ?_
    refine g_getR (pc' := 49) (a := w) dX8_read_46 rfl (PLk.lf fX8_25) hk.1 rfl ?_
    refine g_callr (pc' := 52) dX8_read_49 rfl mX8_51 (ev_X9_turnFirstRun (k := w) (p := p) (σ := sX9_copyFrom w p e (sX6_carryToProduct e (sX6_changeSigns e (sX6_copyFrom e i σ)))) hk.2.2.2 (d := d)) hk.2.2.2.1 rfl (rm_ok (by omega) (by decide)) ⟨rfl, rfl⟩ ⟨Nat.zero_le _, Nat.zero_le _⟩ rfl rfl (Nat.le_of_ble_eq_true rfl) ?_
    refine g_pop2 (pc' := 53) dX8_read_52 rfl rfl ?_
    refine g_aload_n (pc' := 54) dX8_read_53 rfl 0 rfl rfl ?_
    refine g_getR (pc' := 57) (a := w) dX8_read_54 rfl (PLk.lf fX8_25) hk.1 rfl ?_
    refine g_callr (pc' := 60) dX8_read_57 rfl mX8_54 (ev_X9_beginsWithR (k := w) (p := p) (σ := sX9_turnFirstRun w p (sX9_copyFrom w p e (sX6_carryToProduct e (sX6_changeSigns e (sX6_copyFrom e i σ))))) hk.2.2.2 (d := d + 2)) hk.2.2.2.1 rfl (rm_ok (by omega) (by decide)) ⟨rfl, rfl⟩ ⟨Nat.zero_le _, Nat.zero_le _⟩ rfl rfl (Nat.le_of_ble_eq_true rfl) ?_
    refine g_ifb_ne (pc' := 63) (tgt := 71) dX8_read_60 rfl (by decide) (fun (c3 : (rX9_beginsWithR w p (sX9_turnFirstRun w p (sX9_copyFrom w p e (sX6_carryToProduct e (sX6_changeSigns e (sX6_copyFrom e i σ)))))) = true) => ?_) (fun (c3 : (rX9_beginsWithR w p (sX9_turnFirstRun w p (sX9_copyFrom w p e (sX6_carryToProduct e (sX6_changeSigns e (sX6_copyFrom e i σ)))))) = false) => ?_)
    · refine g_aload_n (pc' := 72) dX8_read_71 rfl 0 rfl rfl ?_
      refine g_callv (pc' := 75) dX8_read_72 rfl mX8_58 (ev_X8_clear (k := k) (r := r) (e := e) (w := w) (p := p) (σ := sX9_turnFirstRun w p (sX9_copyFrom w p e (sX6_carryToProduct e (sX6_changeSigns e (sX6_copyFrom e i σ))))) hk (d := d + 2)) hk.1 rfl (rm_ok (by omega) (by decide)) ⟨rfl, rfl⟩ ⟨Nat.zero_le _, Nat.zero_le _⟩ rfl rfl (Nat.le_of_ble_eq_true rfl) ?_
      rw [show sX8_read k r e w p i σ = rdG k r w p 40 0 (sX8_clear k r e w p (sX9_turnFirstRun w p (sX9_copyFrom w p e (sX6_carryToProduct e (sX6_changeSigns e (sX6_copyFrom e i σ)))))) by unfold sX8_read rd0 rdC rdB rdA; rw [if_pos c1]; rw [if_pos c3]]
      refine g_sub [0] rfl ?_
      exact lp_read hk hi 40 0 (sX8_clear k r e w p (sX9_turnFirstRun w p (sX9_copyFrom w p e (sX6_carryToProduct e (sX6_changeSigns e (sX6_copyFrom e i σ)))))) (by omega) (by show u2 _ k 4 _ k 3 = _; rw [u2_j (by decide), u2_eq]; exact nI_0.symm) (u2_eq _ _ _ _)
    · refine g_aload_n (pc' := 64) dX8_read_63 rfl 0 rfl rfl ?_
      refine g_getR (pc' := 67) (a := w) dX8_read_64 rfl (PLk.lf fX8_25) hk.1 rfl ?_
      refine g_callr (pc' := 70) dX8_read_67 rfl mX8_51 (ev_X9_turnFirstRun (k := w) (p := p) (σ := sX9_turnFirstRun w p (sX9_copyFrom w p e (sX6_carryToProduct e (sX6_changeSigns e (sX6_copyFrom e i σ))))) hk.2.2.2 (d := d)) hk.2.2.2.1 rfl (rm_ok (by omega) (by decide)) ⟨rfl, rfl⟩ ⟨Nat.zero_le _, Nat.zero_le _⟩ rfl rfl (Nat.le_of_ble_eq_true rfl) ?_
      refine g_pop2 (pc' := 71) dX8_read_70 rfl rfl ?_
      refine g_aload_n (pc' := 72) dX8_read_71 rfl 0 rfl rfl ?_
      refine g_callv (pc' := 75) dX8_read_72 rfl mX8_58 (ev_X8_clear (k := k) (r := r) (e := e) (w := w) (p := p) (σ := sX9_turnFirstRun w p (sX9_turnFirstRun w p (sX9_copyFrom w p e (sX6_carryToProduct e (sX6_changeSigns e (sX6_copyFrom e i σ)))))) hk (d := d + 2)) hk.1 rfl (rm_ok (by omega) (by decide)) ⟨rfl, rfl⟩ ⟨Nat.zero_le _, Nat.zero_le _⟩ rfl rfl (Nat.le_of_ble_eq_true rfl) ?_
      rw [show sX8_read k r e w p i σ = rdG k r w p 40 0 (sX8_clear k r e w p (sX9_turnFirstRun w p (sX9_turnFirstRun w p (sX9_copyFrom w p e (sX6_carryToProduct e (sX6_changeSigns e (sX6_copyFrom e i σ))))))) by unfold sX8_read rd0 rdC rdB rdA; rw [if_pos c1]; rw [if_neg (bf c3)]]
      refine g_sub [0] rfl ?_
      exact lp_read hk hi 40 0 (sX8_clear k r e w p (sX9_turnFirstRun w p (sX9_turnFirstRun w p (sX9_copyFrom w p e (sX6_carryToProduct e (sX6_changeSigns e (sX6_copyFrom e i σ))))))) (by omega) (by show u2 _ k 4 _ k 3 = _; rw [u2_j (by decide), u2_eq]; exact nI_0.symm) (u2_eq _ _ _ _)
