theorem or_ne {a c ci t z : Nat} {q q' : List Nat} (h : isO shF NP a ci q) (h' : isR shF NP c t z q') : a ≠ c := fun e => by
  have := h.2; rw [e, h'.2] at this; cases this
theorem remZ {n x : Nat} (hn : n < 2 ^ 31) (h0 : 0 < x) (hx : x < 2 ^ 31) : nI n - nI n / nI x * nI x = 0 ↔ n % x = 0 := by
  rw [pk_rem hn h0 hx, ← nI_0, nI_eq (by have := Nat.mod_lt n h0; omega) (by omega)]
theorem nI_self {x : Int32} (h : ¬ x < 0) : x = nI x.toNatClampNeg := by
  obtain ⟨j, hj, rfl⟩ := nI_of h
  rw [nI_clamp hj]
theorem remX {t n : Nat} {x1 : Int32} (h : x1 = nI x1.toNatClampNeg) (h1 : t + x1.toNatClampNeg < 2 ^ 31) (h0 : 0 < n) (hn : n < 2 ^ 31) : nI t + x1 - (nI t + x1) / nI n * nI n = nI ((t + x1.toNatClampNeg) % n) := by
  have q := remI h1 h0 hn
  rw [← h] at q
  exact q
def againF (f : Nat → Int32) (x : Nat) : Nat → Nat → Bool
  | 0, _ => true
  | m + 1, i => if f i = f (i - x) then againF f x m (i + 1) else false
def sumI (f : Nat → Int32) : Nat → Int32
  | 0 => 0
  | i + 1 => sumI f i + f i
def timesF (f : Nat → Int32) (n : Nat) : Nat → Nat → Nat
  | 0, _ => 0
  | m + 1, x => if x ≤ n then (if n % x = 0 then (if againF f x (n - x) x = true then n / x else timesF f n m (x + 2)) else timesF f n m (x + 2)) else 0
def runAtF (f : Nat → Int32) (n t : Nat) (x1 : Int32) : Int32 := if x1 < 0 then -1 else if nI n ≤ x1 then -1 else f ((t + x1.toNatClampNeg) % n)
theorem runAtF_in {f : Nat → Int32} {n t i : Nat} (h : i < n) (hn : n < 2 ^ 31) : runAtF f n t (nI i) = f ((t + i) % n) := by
  unfold runAtF
  rw [if_neg (nI_pos (by omega)), if_neg (nI_ge h hn), nI_clamp (by omega)]
def sameF (f g : Nat → Int32) (n t u : Nat) : Nat → Nat → Bool
  | 0, _ => true
  | m + 1, i => if f ((t + i) % n) = g ((u + i) % n) then sameF f g n t u m (i + 1) else false
def leastS (k r n : Nat) : Nat → Nat → Sg → Sg
  | 0, _, σ => σ
  | m + 1, x, σ => if x < n then leastS k r n m (x + 2) (if lessF (σ.1 r) x (σ.1 k 4).toNatClampNeg n n 0 = true then (u2 σ.1 k 4 (nI x), σ.2) else σ) else σ
set_option maxRecDepth 100000 in
set_option maxHeartbeats 4000000 in
theorem lp_again {l : Launch} {b : Nat} {cy : Nat → ClassId} {D : va_G} {d : Nat} {k : Nat} {r : Nat} {e : Nat} {w : Nat} {p : Nat}  {n x : Nat} {σ : Sg} (hk : Wh k r e w p) (hc : σ.1 k 3 = nI n) (hn : n ≤ 40) : ∀ (m : Nat) (i : Nat), i + m = n → x ≤ i → Gs l b cy D (d + 0) yX8_comesAgainAfter cX8_comesAgainAfter (Option.some Jvm.ClassFile.FieldType.boolean) 3 (some (.int (bI (againF (σ.1 r) x m i)))) σ 2 [(0, .ref (b + k)), (1, .int (nI x)), (2, .int (nI i))] [] σ := by
  intro m
  induction m with
  | zero =>
    intro i hi hxi
    refine g_iload_n (pc' := 3) dX8_comesAgainAfter_2 rfl 2 rfl rfl ?_
    refine g_aload_n (pc' := 4) dX8_comesAgainAfter_3 rfl 0 rfl rfl ?_
    refine g_getI (pc' := 7) dX8_comesAgainAfter_4 rfl (PLk.lf fX8_29) hk.1 rfl ?_
    refine g_icmp_ge (pc' := 10) (tgt := 35) dX8_comesAgainAfter_7 rfl (by decide) (fun (c1 : (σ.1 k 3 : Int32) ≤ (nI i)) => ?_) (fun (c1 : ¬ (σ.1 k 3 : Int32) ≤ (nI i)) => ?_)
    · refine g_iconst (pc' := 36) (v := 1) dX8_comesAgainAfter_35 rfl (by decide) ?_
      exact g_zret dX8_comesAgainAfter_36 rfl (Or.inr rfl) ⟨rfl, rfl⟩ rfl
    · exact absurd (by rw [hc]; exact (nI_leI (by omega) (by omega)).mpr (by omega)) c1
  | succ m ih =>
    intro i hi hxi
    refine g_iload_n (pc' := 3) dX8_comesAgainAfter_2 rfl 2 rfl rfl ?_
    refine g_aload_n (pc' := 4) dX8_comesAgainAfter_3 rfl 0 rfl rfl ?_
    refine g_getI (pc' := 7) dX8_comesAgainAfter_4 rfl (PLk.lf fX8_29) hk.1 rfl ?_
    refine g_icmp_ge (pc' := 10) (tgt := 35) dX8_comesAgainAfter_7 rfl (by decide) (fun (c1 : (σ.1 k 3 : Int32) ≤ (nI i)) => ?_) (fun (c1 : ¬ (σ.1 k 3 : Int32) ≤ (nI i)) => ?_)
    · exact absurd (nle (a := n) (c := i) c1 hc rfl (by omega) (by omega)) (by omega)
    · refine g_aload_n (pc' := 11) dX8_comesAgainAfter_10 rfl 0 rfl rfl ?_
      refine g_getR (pc' := 14) (a := r) dX8_comesAgainAfter_11 rfl (PLk.lf fX8_9) hk.1 rfl ?_
      refine g_iload_n (pc' := 15) dX8_comesAgainAfter_14 rfl 2 rfl rfl ?_
      refine g_iald (pc' := 16) (j := i) dX8_comesAgainAfter_15 rfl hk.2.1 (by decide) rfl (by omega) ?_
      refine g_aload_n (pc' := 17) dX8_comesAgainAfter_16 rfl 0 rfl rfl ?_
      refine g_getR (pc' := 20) (a := r) dX8_comesAgainAfter_17 rfl (PLk.lf fX8_9) hk.1 rfl ?_
      refine g_iload_n (pc' := 21) dX8_comesAgainAfter_20 rfl 2 rfl rfl ?_
      refine g_iload_n (pc' := 22) dX8_comesAgainAfter_21 rfl 1 rfl rfl ?_
      refine g_isub (pc' := 23) dX8_comesAgainAfter_22 rfl ?_
      refine g_iald (pc' := 24) (j := (i - x)) dX8_comesAgainAfter_23 rfl hk.2.1 (by decide) (pk_sub hxi) (by omega) ?_
      refine g_icmp_eq (pc' := 27) (tgt := 29) dX8_comesAgainAfter_24 rfl (by decide) (fun (c2 : (σ.1 r i : Int32) = (σ.1 r (i - x))) => ?_) (fun (c2 : ¬ (σ.1 r i : Int32) = (σ.1 r (i - x))) => ?_)
      · refine g_iinc (pc' := 32) (v := nI (i + 1)) (lv' := [(2, .int (nI (i + 1))), (0, .ref (b + k)), (1, .int (nI x))]) dX8_comesAgainAfter_29 rfl 2 rfl (nI_1 i) (by decide) rfl ?_
        refine g_goto (tgt := 2) dX8_comesAgainAfter_32 (by decide) ?_
        rw [show againF (σ.1 r) x (m + 1) i = againF (σ.1 r) x m (i + 1) by simp only [againF, if_pos c2]]
        refine g_sub [1, 2, 0] rfl ?_
        exact ih (i + 1) (by omega) (by omega)
      · refine g_iconst (pc' := 28) (v := 0) dX8_comesAgainAfter_27 rfl (by decide) ?_
        exact g_zret dX8_comesAgainAfter_28 rfl (Or.inl rfl) ⟨rfl, rfl⟩ (by simp only [againF, if_neg c2]; rfl)
set_option maxRecDepth 100000 in
set_option maxHeartbeats 4000000 in
theorem ev_X8_comesAgainAfter {l : Launch} {b : Nat} {cy : Nat → ClassId} {D : va_G} {d : Nat} {k : Nat} {r : Nat} {e : Nat} {w : Nat} {p : Nat} {x1 : Int32} {n : Nat} {x : Nat} {σ : Sg} (hk : Wh k r e w p) (hc : σ.1 k 3 = nI n) (hn : n ≤ 40) (q1 : x1 = nI x) (hx : x ≤ n) : Es l b cy D (d + 0) yX8_comesAgainAfter cX8_comesAgainAfter (Option.some Jvm.ClassFile.FieldType.boolean) 3 [.ref (b + k), .int (x1)] σ (some (.int (bI (againF (σ.1 r) x (n - x) x)))) σ := by
  refine Ev.of (by decide) (Nat.le_of_ble_eq_true rfl) rfl ?_
  refine g_iload_n (pc' := 1) dX8_comesAgainAfter_0 rfl 1 rfl rfl ?_
  refine g_istore_n (pc' := 2) (j := 2) (lv' := [(2, .int (x1)), (0, .ref (b + k)), (1, .int (x1))]) dX8_comesAgainAfter_1 rfl rfl (by decide) rfl ?_
  refine g_sub [1, 2, 0] rfl ?_
  subst q1
  exact lp_again hk hc hn (n - x) x (by omega) (Nat.le_refl x)
set_option maxRecDepth 100000 in
set_option maxHeartbeats 4000000 in
theorem lp_letters {l : Launch} {b : Nat} {cy : Nat → ClassId} {D : va_G} {d : Nat} {k : Nat} {r : Nat} {e : Nat} {w : Nat} {p : Nat}  {n : Nat} {σ : Sg} (hk : Wh k r e w p) (hc : σ.1 k 3 = nI n) (hn : n ≤ 40) : ∀ (m : Nat) (i : Nat), i + m = n → Gs l b cy D (d + 0) yX8_letters cX8_letters (Option.some Jvm.ClassFile.FieldType.int) 3 (some (.int (sumI (σ.1 r) n))) σ 4 [(0, .ref (b + k)), (1, .int (sumI (σ.1 r) i)), (2, .int (nI i))] [] σ := by
  intro m
  induction m with
  | zero =>
    intro i hi
    refine g_iload_n (pc' := 5) dX8_letters_4 rfl 2 rfl rfl ?_
    refine g_aload_n (pc' := 6) dX8_letters_5 rfl 0 rfl rfl ?_
    refine g_getI (pc' := 9) dX8_letters_6 rfl (PLk.lf fX8_29) hk.1 rfl ?_
    refine g_icmp_ge (pc' := 12) (tgt := 27) dX8_letters_9 rfl (by decide) (fun (c1 : (σ.1 k 3 : Int32) ≤ (nI i)) => ?_) (fun (c1 : ¬ (σ.1 k 3 : Int32) ≤ (nI i)) => ?_)
    · refine g_iload_n (pc' := 28) dX8_letters_27 rfl 1 rfl rfl ?_
      exact g_iret dX8_letters_28 rfl ⟨rfl, rfl⟩ (by have e : i = n := hi; rw [e])
    · exact absurd (by rw [hc]; exact (nI_leI (by omega) (by omega)).mpr (by omega)) c1
  | succ m ih =>
    intro i hi
    refine g_iload_n (pc' := 5) dX8_letters_4 rfl 2 rfl rfl ?_
    refine g_aload_n (pc' := 6) dX8_letters_5 rfl 0 rfl rfl ?_
    refine g_getI (pc' := 9) dX8_letters_6 rfl (PLk.lf fX8_29) hk.1 rfl ?_
    refine g_icmp_ge (pc' := 12) (tgt := 27) dX8_letters_9 rfl (by decide) (fun (c1 : (σ.1 k 3 : Int32) ≤ (nI i)) => ?_) (fun (c1 : ¬ (σ.1 k 3 : Int32) ≤ (nI i)) => ?_)
    · exact absurd (nle (a := n) (c := i) c1 hc rfl (by omega) (by omega)) (by omega)
    · refine g_iload_n (pc' := 13) dX8_letters_12 rfl 1 rfl rfl ?_
      refine g_aload_n (pc' := 14) dX8_letters_13 rfl 0 rfl rfl ?_
      refine g_getR (pc' := 17) (a := r) dX8_letters_14 rfl (PLk.lf fX8_9) hk.1 rfl ?_
      refine g_iload_n (pc' := 18) dX8_letters_17 rfl 2 rfl rfl ?_
      refine g_iald (pc' := 19) (j := i) dX8_letters_18 rfl hk.2.1 (by decide) rfl (by omega) ?_
      refine g_iadd (pc' := 20) dX8_letters_19 rfl ?_
      refine g_istore_n (pc' := 21) (j := 1) (lv' := [(1, .int ((sumI (σ.1 r) i) + (σ.1 r i))), (0, .ref (b + k)), (2, .int (nI i))]) dX8_letters_20 rfl rfl (by decide) rfl ?_
      refine g_iinc (pc' := 24) (v := nI (i + 1)) (lv' := [(2, .int (nI (i + 1))), (1, .int ((sumI (σ.1 r) i) + (σ.1 r i))), (0, .ref (b + k))]) dX8_letters_21 rfl 2 rfl (nI_1 i) (by decide) rfl ?_
      refine g_goto (tgt := 4) dX8_letters_24 (by decide) ?_
      refine g_sub [2, 1, 0] rfl ?_
      exact ih (i + 1) (by omega)
set_option maxRecDepth 100000 in
set_option maxHeartbeats 4000000 in
theorem ev_X8_letters {l : Launch} {b : Nat} {cy : Nat → ClassId} {D : va_G} {d : Nat} {k : Nat} {r : Nat} {e : Nat} {w : Nat} {p : Nat}  {n : Nat} {σ : Sg} (hk : Wh k r e w p) (hc : σ.1 k 3 = nI n) (hn : n ≤ 40) : Es l b cy D (d + 0) yX8_letters cX8_letters (Option.some Jvm.ClassFile.FieldType.int) 3 [.ref (b + k)] σ (some (.int (sumI (σ.1 r) n))) σ := by
  refine Ev.of (by decide) (Nat.le_of_ble_eq_true rfl) rfl ?_
  refine g_iconst (pc' := 1) (v := 0) dX8_letters_0 rfl (by decide) ?_
  refine g_istore_n (pc' := 2) (j := 1) (lv' := [(1, .int (0)), (0, .ref (b + k))]) dX8_letters_1 rfl rfl (by decide) rfl ?_
  refine g_iconst (pc' := 3) (v := 0) dX8_letters_2 rfl (by decide) ?_
  refine g_istore_n (pc' := 4) (j := 2) (lv' := [(2, .int (0)), (1, .int (0)), (0, .ref (b + k))]) dX8_letters_3 rfl rfl (by decide) rfl ?_
  refine g_sub [2, 1, 0] rfl ?_
  exact lp_letters hk hc hn n 0 (by omega)
set_option maxRecDepth 100000 in
set_option maxHeartbeats 4000000 in
theorem lp_times {l : Launch} {b : Nat} {cy : Nat → ClassId} {D : va_G} {d : Nat} {k : Nat} {r : Nat} {e : Nat} {w : Nat} {p : Nat}  {n : Nat} {σ : Sg} (hk : Wh k r e w p) (hc : σ.1 k 3 = nI n) (hn : n ≤ 40) : ∀ (m : Nat) (x : Nat), n < x + 2 * m → 2 ≤ x → x ≤ 42 → Gs l b cy D (d + 1) yX8_times cX8_times (Option.some Jvm.ClassFile.FieldType.int) 2 (some (.int (nI (timesF (σ.1 r) n m x)))) σ 2 [(0, .ref (b + k)), (1, .int (nI x))] [] σ := by
  intro m
  induction m with
  | zero =>
    intro x hx h2 h3
    refine g_iload_n (pc' := 3) dX8_times_2 rfl 1 rfl rfl ?_
    refine g_aload_n (pc' := 4) dX8_times_3 rfl 0 rfl rfl ?_
    refine g_getI (pc' := 7) dX8_times_4 rfl (PLk.lf fX8_29) hk.1 rfl ?_
    refine g_icmp_gt (pc' := 10) (tgt := 40) dX8_times_7 rfl (by decide) (fun (c1 : (σ.1 k 3 : Int32) < (nI x)) => ?_) (fun (c1 : ¬ (σ.1 k 3 : Int32) < (nI x)) => ?_)
    · refine g_iconst (pc' := 41) (v := 0) dX8_times_40 rfl (by decide) ?_
      exact g_iret dX8_times_41 rfl ⟨rfl, rfl⟩ rfl
    · exact absurd (by rw [hc]; exact (nI_ltI (by omega) (by omega)).mpr (by omega)) c1
  | succ m ih =>
    intro x hx h2 h3
    refine g_iload_n (pc' := 3) dX8_times_2 rfl 1 rfl rfl ?_
    refine g_aload_n (pc' := 4) dX8_times_3 rfl 0 rfl rfl ?_
    refine g_getI (pc' := 7) dX8_times_4 rfl (PLk.lf fX8_29) hk.1 rfl ?_
    refine g_icmp_gt (pc' := 10) (tgt := 40) dX8_times_7 rfl (by decide) (fun (c1 : (σ.1 k 3 : Int32) < (nI x)) => ?_) (fun (c1 : ¬ (σ.1 k 3 : Int32) < (nI x)) => ?_)
    · refine g_iconst (pc' := 41) (v := 0) dX8_times_40 rfl (by decide) ?_
      exact g_iret dX8_times_41 rfl ⟨rfl, rfl⟩ (by simp only [timesF, if_neg (Nat.not_le.mpr (nlt' (a := n) (c := x) c1 hc rfl (by omega) (by omega)))]; rfl)
    · refine g_aload_n (pc' := 11) dX8_times_10 rfl 0 rfl rfl ?_
      refine g_getI (pc' := 14) dX8_times_11 rfl (PLk.lf fX8_29) hk.1 rfl ?_
      refine g_iload_n (pc' := 15) dX8_times_14 rfl 1 rfl rfl ?_
      refine g_irem (pc' := 16) dX8_times_15 rfl (nI_ne0 (by omega) (by omega)) ?_
      refine g_if_ne (pc' := 19) (tgt := 34) dX8_times_16 rfl (by decide) (fun (c2 : ¬ ((σ.1 k 3) - (σ.1 k 3) / (nI x) * (nI x) : Int32) = 0) => ?_) (fun (c2 : ((σ.1 k 3) - (σ.1 k 3) / (nI x) * (nI x) : Int32) = 0) => ?_)
      · refine g_iinc (pc' := 37) (v := nI (x + 2)) (lv' := [(1, .int (nI (x + 2))), (0, .ref (b + k))]) dX8_times_34 rfl 1 rfl (nI_add x 2) (by decide) rfl ?_
        refine g_goto (tgt := 2) dX8_times_37 (by decide) ?_
        rw [show timesF (σ.1 r) n (m + 1) x = timesF (σ.1 r) n m (x + 2) by simp only [timesF, if_pos (nnlt (a := n) (c := x) c1 hc rfl (by omega) (by omega)), if_neg (fun z => c2 (by rw [hc]; exact (remZ (by omega) (by omega) (by omega)).mpr z))]]
        refine g_sub [1, 0] rfl ?_
        exact ih (x + 2) (by omega) (by omega) (by have := nnlt (a := n) (c := x) c1 hc rfl (by omega) (by omega); omega)
      · refine g_aload_n (pc' := 20) dX8_times_19 rfl 0 rfl rfl ?_
        refine g_iload_n (pc' := 21) dX8_times_20 rfl 1 rfl rfl ?_
        refine g_callr (pc' := 24) dX8_times_21 rfl mX8_74 (ev_X8_comesAgainAfter (k := k) (r := r) (e := e) (w := w) (p := p) (x1 := nI x) (n := n) (x := x) (σ := σ) hk hc hn rfl (nnlt (a := n) (c := x) c1 hc rfl (by omega) (by omega)) (d := d)) hk.1 rfl (rm_ok (by omega) (by decide)) ⟨rfl, rfl⟩ ⟨Nat.zero_le _, Nat.zero_le _⟩ rfl rfl (Nat.le_of_ble_eq_true rfl) ?_
        refine g_ifb_eq (pc' := 27) (tgt := 34) dX8_times_24 rfl (by decide) (fun (c3 : (againF (σ.1 r) x (n - x) x) = false) => ?_) (fun (c3 : (againF (σ.1 r) x (n - x) x) = true) => ?_)
        · refine g_iinc (pc' := 37) (v := nI (x + 2)) (lv' := [(1, .int (nI (x + 2))), (0, .ref (b + k))]) dX8_times_34 rfl 1 rfl (nI_add x 2) (by decide) rfl ?_
          refine g_goto (tgt := 2) dX8_times_37 (by decide) ?_
          rw [show timesF (σ.1 r) n (m + 1) x = timesF (σ.1 r) n m (x + 2) by simp only [timesF, if_pos (nnlt (a := n) (c := x) c1 hc rfl (by omega) (by omega)), if_pos ((remZ (by omega) (by omega) (by omega)).mp (hc ▸ c2)), if_neg (bf c3)]]
          refine g_sub [1, 0] rfl ?_
          exact ih (x + 2) (by omega) (by omega) (by have := nnlt (a := n) (c := x) c1 hc rfl (by omega) (by omega); omega)
        · refine g_aload_n (pc' := 28) dX8_times_27 rfl 0 rfl rfl ?_
          refine g_getI (pc' := 31) dX8_times_28 rfl (PLk.lf fX8_29) hk.1 rfl ?_
          refine g_iload_n (pc' := 32) dX8_times_31 rfl 1 rfl rfl ?_
          refine g_idiv (pc' := 33) dX8_times_32 rfl (nI_ne0 (by omega) (by omega)) ?_
          exact g_iret dX8_times_33 rfl ⟨rfl, rfl⟩ (by simp only [timesF, if_pos (nnlt (a := n) (c := x) c1 hc rfl (by omega) (by omega)), if_pos ((remZ (by omega) (by omega) (by omega)).mp (hc ▸ c2)), if_pos c3]; rw [hc, pk_div (by omega) (by omega) (by omega)])
set_option maxRecDepth 100000 in
set_option maxHeartbeats 4000000 in
theorem ev_X8_times {l : Launch} {b : Nat} {cy : Nat → ClassId} {D : va_G} {d : Nat} {k : Nat} {r : Nat} {e : Nat} {w : Nat} {p : Nat}  {n : Nat} {σ : Sg} (hk : Wh k r e w p) (hc : σ.1 k 3 = nI n) (hn : n ≤ 40) : Es l b cy D (d + 1) yX8_times cX8_times (Option.some Jvm.ClassFile.FieldType.int) 2 [.ref (b + k)] σ (some (.int (nI (timesF (σ.1 r) n 21 2)))) σ := by
  refine Ev.of (by decide) (Nat.le_of_ble_eq_true rfl) rfl ?_
  refine g_iconst (pc' := 1) (v := 2) dX8_times_0 rfl (by decide) ?_
  refine g_istore_n (pc' := 2) (j := 1) (lv' := [(1, .int (2)), (0, .ref (b + k))]) dX8_times_1 rfl rfl (by decide) rfl ?_
  refine g_sub [1, 0] rfl ?_
  exact lp_times hk hc hn 21 2 (by omega) (by omega) (by omega)
set_option maxRecDepth 100000 in
set_option maxHeartbeats 4000000 in
theorem ev_X8_runAt {l : Launch} {b : Nat} {cy : Nat → ClassId} {D : va_G} {d : Nat} {k : Nat} {r : Nat} {e : Nat} {w : Nat} {p : Nat} {x1 : Int32} {n : Nat} {t : Nat} {σ : Sg} (hk : Wh k r e w p) (hc : σ.1 k 3 = nI n) (hn : n ≤ 40) (ht : σ.1 k 4 = nI t) (htn : t < 2 ^ 20) : Es l b cy D (d + 0) yX8_runAt cX8_runAt (Option.some Jvm.ClassFile.FieldType.int) 2 [.ref (b + k), .int (x1)] σ (some (.int (runAtF (σ.1 r) n t x1))) σ := by
  refine Ev.of (by decide) (Nat.le_of_ble_eq_true rfl) rfl ?_
  refine g_iload_n (pc' := 1) dX8_runAt_0 rfl 1 rfl rfl ?_
  refine g_if_lt (pc' := 4) (tgt := 31) dX8_runAt_1 rfl (by decide) (fun (c1 : (x1 : Int32) < 0) => ?_) (fun (c1 : ¬ (x1 : Int32) < 0) => ?_)
  · refine g_iconst (pc' := 32) (v := -1) dX8_runAt_31 rfl (by decide) ?_
    exact g_iret dX8_runAt_32 rfl ⟨rfl, rfl⟩ (by simp only [runAtF, if_pos c1])
  · refine g_iload_n (pc' := 5) dX8_runAt_4 rfl 1 rfl rfl ?_
    refine g_aload_n (pc' := 6) dX8_runAt_5 rfl 0 rfl rfl ?_
    refine g_getI (pc' := 9) dX8_runAt_6 rfl (PLk.lf fX8_29) hk.1 rfl ?_
    refine g_icmp_ge (pc' := 12) (tgt := 31) dX8_runAt_9 rfl (by decide) (fun (c2 : (σ.1 k 3 : Int32) ≤ x1) => ?_) (fun (c2 : ¬ (σ.1 k 3 : Int32) ≤ x1) => ?_)
    · refine g_iconst (pc' := 32) (v := -1) dX8_runAt_31 rfl (by decide) ?_
      exact g_iret dX8_runAt_32 rfl ⟨rfl, rfl⟩ (by simp only [runAtF, if_neg c1, if_pos (show nI n ≤ x1 from hc ▸ c2)])
    · have hx0 := nI_self c1
      have hxn : x1.toNatClampNeg < n := nnle (a := n) (c := x1.toNatClampNeg) c2 hc hx0 (by omega) (by obtain ⟨j, hj, e⟩ := nI_of c1; rw [e, nI_clamp hj]; exact hj)
      refine g_aload_n (pc' := 13) dX8_runAt_12 rfl 0 rfl rfl ?_
      refine g_getR (pc' := 16) (a := r) dX8_runAt_13 rfl (PLk.lf fX8_9) hk.1 rfl ?_
      refine g_aload_n (pc' := 17) dX8_runAt_16 rfl 0 rfl rfl ?_
      refine g_getI (pc' := 20) dX8_runAt_17 rfl (PLk.lf fX8_33) hk.1 rfl ?_
      refine g_iload_n (pc' := 21) dX8_runAt_20 rfl 1 rfl rfl ?_
      refine g_iadd (pc' := 22) dX8_runAt_21 rfl ?_
      refine g_aload_n (pc' := 23) dX8_runAt_22 rfl 0 rfl rfl ?_
      refine g_getI (pc' := 26) dX8_runAt_23 rfl (PLk.lf fX8_29) hk.1 rfl ?_
      refine g_irem (pc' := 27) dX8_runAt_26 rfl (by rw [hc]; exact nI_ne0 (by omega) (by omega)) ?_
      refine g_iald (pc' := 28) (j := ((t + x1.toNatClampNeg) % n)) dX8_runAt_27 rfl hk.2.1 (by decide) (by rw [hc, ht]; exact remX hx0 (by omega) (by omega) (by omega)) (Nat.lt_of_lt_of_le (Nat.mod_lt _ (by omega)) hn) ?_
      refine g_goto (tgt := 32) dX8_runAt_28 (by decide) ?_
      exact g_iret dX8_runAt_32 rfl ⟨rfl, rfl⟩ (by simp only [runAtF, if_neg c1, if_neg (show ¬ nI n ≤ x1 from hc ▸ c2)])
set_option maxRecDepth 100000 in
set_option maxHeartbeats 4000000 in
theorem lp_same {l : Launch} {b : Nat} {cy : Nat → ClassId} {D : va_G} {d : Nat} {k : Nat} {r : Nat} {e : Nat} {w : Nat} {p : Nat} {i : Nat} {r2 : Nat} {e2 : Nat} {w2 : Nat} {p2 : Nat}  {n t u : Nat} {σ : Sg} (hk : Wh k r e w p) (hi : Wh i r2 e2 w2 p2) (hc : σ.1 k 3 = nI n) (hn : n ≤ 40) (ht : σ.1 k 4 = nI t) (htn : t < 2 ^ 20) (hc2 : σ.1 i 3 = nI n) (ht2 : σ.1 i 4 = nI u) (hun : u < 2 ^ 20) : ∀ (m : Nat) (j : Nat), j + m = n → Gs l b cy D (d + 1) yX8_isSameAs cX8_isSameAs (Option.some Jvm.ClassFile.FieldType.boolean) 3 (some (.int (bI (sameF (σ.1 r) (σ.1 r2) n t u m j)))) σ 15 [(0, .ref (b + k)), (1, .ref (b + i)), (2, .int (nI j))] [] σ := by
  intro m
  induction m with
  | zero =>
    intro j hj
    refine g_iload_n (pc' := 16) dX8_isSameAs_15 rfl 2 rfl rfl ?_
    refine g_aload_n (pc' := 17) dX8_isSameAs_16 rfl 0 rfl rfl ?_
    refine g_getI (pc' := 20) dX8_isSameAs_17 rfl (PLk.lf fX8_29) hk.1 rfl ?_
    refine g_icmp_ge (pc' := 23) (tgt := 44) dX8_isSameAs_20 rfl (by decide) (fun (c1 : (σ.1 k 3 : Int32) ≤ (nI j)) => ?_) (fun (c1 : ¬ (σ.1 k 3 : Int32) ≤ (nI j)) => ?_)
    · refine g_iconst (pc' := 45) (v := 1) dX8_isSameAs_44 rfl (by decide) ?_
      exact g_zret dX8_isSameAs_45 rfl (Or.inr rfl) ⟨rfl, rfl⟩ rfl
    · exact absurd (by rw [hc]; exact (nI_leI (by omega) (by omega)).mpr (by omega)) c1
  | succ m ih =>
    intro j hj
    refine g_iload_n (pc' := 16) dX8_isSameAs_15 rfl 2 rfl rfl ?_
    refine g_aload_n (pc' := 17) dX8_isSameAs_16 rfl 0 rfl rfl ?_
    refine g_getI (pc' := 20) dX8_isSameAs_17 rfl (PLk.lf fX8_29) hk.1 rfl ?_
    refine g_icmp_ge (pc' := 23) (tgt := 44) dX8_isSameAs_20 rfl (by decide) (fun (c1 : (σ.1 k 3 : Int32) ≤ (nI j)) => ?_) (fun (c1 : ¬ (σ.1 k 3 : Int32) ≤ (nI j)) => ?_)
    · exact absurd (nle (a := n) (c := j) c1 hc rfl (by omega) (by omega)) (by omega)
    · refine g_aload_n (pc' := 24) dX8_isSameAs_23 rfl 0 rfl rfl ?_
      refine g_iload_n (pc' := 25) dX8_isSameAs_24 rfl 2 rfl rfl ?_
      refine g_callr (pc' := 28) dX8_isSameAs_25 rfl mX8_78 (ev_X8_runAt (k := k) (r := r) (e := e) (w := w) (p := p) (x1 := nI j) (n := n) (t := t) (σ := σ) hk hc hn ht htn (d := d)) hk.1 rfl (rm_ok (by omega) (by decide)) ⟨rfl, rfl⟩ ⟨Nat.zero_le _, Nat.zero_le _⟩ rfl rfl (Nat.le_of_ble_eq_true rfl) ?_
      refine g_aload_n (pc' := 29) dX8_isSameAs_28 rfl 1 rfl rfl ?_
      refine g_iload_n (pc' := 30) dX8_isSameAs_29 rfl 2 rfl rfl ?_
      refine g_callr (pc' := 33) dX8_isSameAs_30 rfl mX8_78 (ev_X8_runAt (k := i) (r := r2) (e := e2) (w := w2) (p := p2) (x1 := nI j) (n := n) (t := u) (σ := σ) hi hc2 hn ht2 hun (d := d)) hi.1 rfl (rm_ok (by omega) (by decide)) ⟨rfl, rfl⟩ ⟨Nat.zero_le _, Nat.zero_le _⟩ rfl rfl (Nat.le_of_ble_eq_true rfl) ?_
      refine g_icmp_eq (pc' := 36) (tgt := 38) dX8_isSameAs_33 rfl (by decide) (fun (c2 : (runAtF (σ.1 r) n t (nI j) : Int32) = (runAtF (σ.1 r2) n u (nI j))) => ?_) (fun (c2 : ¬ (runAtF (σ.1 r) n t (nI j) : Int32) = (runAtF (σ.1 r2) n u (nI j))) => ?_)
      · refine g_iinc (pc' := 41) (v := nI (j + 1)) (lv' := [(2, .int (nI (j + 1))), (0, .ref (b + k)), (1, .ref (b + i))]) dX8_isSameAs_38 rfl 2 rfl (nI_1 j) (by decide) rfl ?_
        refine g_goto (tgt := 15) dX8_isSameAs_41 (by decide) ?_
        rw [show sameF (σ.1 r) (σ.1 r2) n t u (m + 1) j = sameF (σ.1 r) (σ.1 r2) n t u m (j + 1) by simp only [sameF, if_pos (show σ.1 r ((t + j) % n) = σ.1 r2 ((u + j) % n) from by have z := c2; rwa [runAtF_in (by omega) (by omega), runAtF_in (by omega) (by omega)] at z)]]
        refine g_sub [1, 2, 0] rfl ?_
        exact ih (j + 1) (by omega)
      · refine g_iconst (pc' := 37) (v := 0) dX8_isSameAs_36 rfl (by decide) ?_
        exact g_zret dX8_isSameAs_37 rfl (Or.inl rfl) ⟨rfl, rfl⟩ (by simp only [sameF, if_neg (show ¬ σ.1 r ((t + j) % n) = σ.1 r2 ((u + j) % n) from by have z := c2; rwa [runAtF_in (by omega) (by omega), runAtF_in (by omega) (by omega)] at z)]; rfl)
def sameW (f g : Nat → Int32) (n n2 t u : Nat) : Bool := if n = n2 then sameF f g n t u n 0 else false
set_option maxRecDepth 100000 in
set_option maxHeartbeats 4000000 in
theorem ev_X8_isSameAs {l : Launch} {b : Nat} {cy : Nat → ClassId} {D : va_G} {d : Nat} {k : Nat} {r : Nat} {e : Nat} {w : Nat} {p : Nat} {i : Nat} {r2 : Nat} {e2 : Nat} {w2 : Nat} {p2 : Nat}  {n : Nat} {n2 : Nat} {t : Nat} {u : Nat} {σ : Sg} (hk : Wh k r e w p) (hi : Wh i r2 e2 w2 p2) (hc : σ.1 k 3 = nI n) (hn : n ≤ 40) (ht : σ.1 k 4 = nI t) (htn : t < 2 ^ 20) (hc2 : σ.1 i 3 = nI n2) (hn2 : n2 ≤ 40) (ht2 : σ.1 i 4 = nI u) (hun : u < 2 ^ 20) : Es l b cy D (d + 1) yX8_isSameAs cX8_isSameAs (Option.some Jvm.ClassFile.FieldType.boolean) 3 [.ref (b + k), .ref (b + i)] σ (some (.int (bI (sameW (σ.1 r) (σ.1 r2) n n2 t u)))) σ := by
  refine Ev.of (by decide) (Nat.le_of_ble_eq_true rfl) rfl ?_
  refine g_aload_n (pc' := 1) dX8_isSameAs_0 rfl 0 rfl rfl ?_
  refine g_getI (pc' := 4) dX8_isSameAs_1 rfl (PLk.lf fX8_29) hk.1 rfl ?_
  refine g_aload_n (pc' := 5) dX8_isSameAs_4 rfl 1 rfl rfl ?_
  refine g_getI (pc' := 8) dX8_isSameAs_5 rfl (PLk.lf fX8_29) hi.1 rfl ?_
  refine g_icmp_eq (pc' := 11) (tgt := 13) dX8_isSameAs_8 rfl (by decide) (fun (c1 : (σ.1 k 3 : Int32) = (σ.1 i 3)) => ?_) (fun (c1 : ¬ (σ.1 k 3 : Int32) = (σ.1 i 3)) => ?_)
  · refine g_iconst (pc' := 14) (v := 0) dX8_isSameAs_13 rfl (by decide) ?_
    refine g_istore_n (pc' := 15) (j := 2) (lv' := [(2, .int (0)), (0, .ref (b + k)), (1, .ref (b + i))]) dX8_isSameAs_14 rfl rfl (by decide) rfl ?_
    have en : n = n2 := (nI_eq (by omega) (by omega)).mp (by rw [← hc, ← hc2]; exact c1)
    subst en
    rw [show sameW (σ.1 r) (σ.1 r2) n n t u = sameF (σ.1 r) (σ.1 r2) n t u n 0 from if_pos rfl]
    refine g_sub [1, 2, 0] rfl ?_
    exact lp_same hk hi hc hn ht htn hc2 ht2 hun n 0 (by omega)
  · refine g_iconst (pc' := 12) (v := 0) dX8_isSameAs_11 rfl (by decide) ?_
    exact g_zret dX8_isSameAs_12 rfl (Or.inl rfl) ⟨rfl, rfl⟩ (by rw [show sameW (σ.1 r) (σ.1 r2) n n2 t u = false from if_neg (fun z => c1 (by rw [hc, hc2, z]))]; rfl)
set_option maxRecDepth 100000 in
set_option maxHeartbeats 4000000 in
theorem lp_fls {l : Launch} {b : Nat} {cy : Nat → ClassId} {D : va_G} {d : Nat} {k : Nat} {r : Nat} {e : Nat} {w : Nat} {p : Nat}  {n : Nat}  (hk : Wh k r e w p) (hn : n ≤ 40) : ∀ (m : Nat) (x : Nat) (t : Nat) (σ : Sg), n ≤ x + 2 * m → x ≤ 42 → σ.1 k 3 = nI n → σ.1 k 4 = nI t → t ≤ 42 → Gs l b cy D (d + 1) yX8_findLeastStart cX8_findLeastStart (Option.none : Option Jvm.ClassFile.FieldType) 2 none (leastS k r n m x σ) 2 [(0, .ref (b + k)), (1, .int (nI x))] [] σ := by
  intro m
  induction m with
  | zero =>
    intro x t σ hx h3 hc ht htn
    refine g_iload_n (pc' := 3) dX8_findLeastStart_2 rfl 1 rfl rfl ?_
    refine g_aload_n (pc' := 4) dX8_findLeastStart_3 rfl 0 rfl rfl ?_
    refine g_getI (pc' := 7) dX8_findLeastStart_4 rfl (PLk.lf fX8_29) hk.1 rfl ?_
    refine g_icmp_ge (pc' := 10) (tgt := 33) dX8_findLeastStart_7 rfl (by decide) (fun (c1 : (σ.1 k 3 : Int32) ≤ (nI x)) => ?_) (fun (c1 : ¬ (σ.1 k 3 : Int32) ≤ (nI x)) => ?_)
    · exact g_vret dX8_findLeastStart_33 rfl ⟨rfl, rfl⟩ rfl
    · exact absurd (by rw [hc]; exact (nI_leI (by omega) (by omega)).mpr (by omega)) c1
  | succ m ih =>
    intro x t σ hx h3 hc ht htn
    refine g_iload_n (pc' := 3) dX8_findLeastStart_2 rfl 1 rfl rfl ?_
    refine g_aload_n (pc' := 4) dX8_findLeastStart_3 rfl 0 rfl rfl ?_
    refine g_getI (pc' := 7) dX8_findLeastStart_4 rfl (PLk.lf fX8_29) hk.1 rfl ?_
    refine g_icmp_ge (pc' := 10) (tgt := 33) dX8_findLeastStart_7 rfl (by decide) (fun (c1 : (σ.1 k 3 : Int32) ≤ (nI x)) => ?_) (fun (c1 : ¬ (σ.1 k 3 : Int32) ≤ (nI x)) => ?_)
    · exact g_vret dX8_findLeastStart_33 rfl ⟨rfl, rfl⟩ (by simp only [leastS, if_neg (Nat.not_lt.mpr (nle (a := n) (c := x) c1 hc rfl (by omega) (by omega)))])
    · refine g_aload_n (pc' := 11) dX8_findLeastStart_10 rfl 0 rfl rfl ?_
      refine g_iload_n (pc' := 12) dX8_findLeastStart_11 rfl 1 rfl rfl ?_
      refine g_aload_n (pc' := 13) dX8_findLeastStart_12 rfl 0 rfl rfl ?_
      refine g_getI (pc' := 16) dX8_findLeastStart_13 rfl (PLk.lf fX8_33) hk.1 rfl ?_
      refine g_callr (pc' := 19) dX8_findLeastStart_16 rfl mX8_70 (ev_X8_isLessFrom (k := k) (r := r) (e := e) (w := w) (p := p) (x1 := nI x) (x2 := σ.1 k 4) (n := n) (x := x) (y := t) (σ := σ) hk hc hn rfl ht (by omega) (by omega) (d := d)) hk.1 rfl (rm_ok (by omega) (by decide)) ⟨rfl, rfl⟩ ⟨Nat.zero_le _, Nat.zero_le _⟩ rfl rfl (Nat.le_of_ble_eq_true rfl) ?_
      refine g_ifb_eq (pc' := 22) (tgt := 27) dX8_findLeastStart_19 rfl (by decide) (fun (c2 : (lessF (σ.1 r) x t n n 0) = false) => ?_) (fun (c2 : (lessF (σ.1 r) x t n n 0) = true) => ?_)
      · refine g_iinc (pc' := 30) (v := nI (x + 2)) (lv' := [(1, .int (nI (x + 2))), (0, .ref (b + k))]) dX8_findLeastStart_27 rfl 1 rfl (nI_add x 2) (by decide) rfl ?_
        refine g_goto (tgt := 2) dX8_findLeastStart_30 (by decide) ?_
        rw [show leastS k r n (m + 1) x σ = leastS k r n m (x + 2) σ by simp only [leastS, if_pos (nnle (a := n) (c := x) c1 hc rfl (by omega) (by omega)), ht, nI_clamp (show t < 2 ^ 31 by omega), if_neg (bf c2)]]
        refine g_sub [1, 0] rfl ?_
        exact ih (x + 2) t σ (by omega) (by have := nnle (a := n) (c := x) c1 hc rfl (by omega) (by omega); omega) hc ht htn
      · refine g_aload_n (pc' := 23) dX8_findLeastStart_22 rfl 0 rfl rfl ?_
        refine g_iload_n (pc' := 24) dX8_findLeastStart_23 rfl 1 rfl rfl ?_
        refine g_putI (pc' := 27) dX8_findLeastStart_24 rfl fX8_33 hk.1 rfl ?_
        refine g_iinc (pc' := 30) (v := nI (x + 2)) (lv' := [(1, .int (nI (x + 2))), (0, .ref (b + k))]) dX8_findLeastStart_27 rfl 1 rfl (nI_add x 2) (by decide) rfl ?_
        refine g_goto (tgt := 2) dX8_findLeastStart_30 (by decide) ?_
        rw [show leastS k r n (m + 1) x σ = leastS k r n m (x + 2) (u2 σ.1 k 4 (nI x), σ.2) by simp only [leastS, if_pos (nnle (a := n) (c := x) c1 hc rfl (by omega) (by omega)), ht, nI_clamp (show t < 2 ^ 31 by omega), if_pos c2]]
        refine g_sub [1, 0] rfl ?_
        exact ih (x + 2) x (u2 σ.1 k 4 (nI x), σ.2) (by omega) (by have := nnle (a := n) (c := x) c1 hc rfl (by omega) (by omega); omega) (by show u2 σ.1 k 4 (nI x) k 3 = _; rw [u2_j (by decide)]; exact hc) (u2_eq _ _ _ _) h3
set_option maxRecDepth 100000 in
set_option maxHeartbeats 4000000 in
theorem ev_X8_findLeastStart {l : Launch} {b : Nat} {cy : Nat → ClassId} {D : va_G} {d : Nat} {k : Nat} {r : Nat} {e : Nat} {w : Nat} {p : Nat}  {n : Nat} {t : Nat} {σ : Sg} (hk : Wh k r e w p) (hc : σ.1 k 3 = nI n) (hn : n ≤ 40) (ht : σ.1 k 4 = nI t) (htn : t ≤ 42) : Es l b cy D (d + 1) yX8_findLeastStart cX8_findLeastStart (Option.none : Option Jvm.ClassFile.FieldType) 2 [.ref (b + k)] σ none (leastS k r n 20 2 σ) := by
  refine Ev.of (by decide) (Nat.le_of_ble_eq_true rfl) rfl ?_
  refine g_iconst (pc' := 1) (v := 2) dX8_findLeastStart_0 rfl (by decide) ?_
  refine g_istore_n (pc' := 2) (j := 1) (lv' := [(1, .int (2)), (0, .ref (b + k))]) dX8_findLeastStart_1 rfl rfl (by decide) rfl ?_
  refine g_sub [1, 0] rfl ?_
  exact lp_fls hk hn 20 2 t σ (by omega) (by omega) hc ht htn
