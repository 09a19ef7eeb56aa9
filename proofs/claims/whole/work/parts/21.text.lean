def rX7_length   (σ : Sg) : Int32 := σ.1 45 1
set_option maxRecDepth 100000 in
set_option maxHeartbeats 4000000 in
theorem ev_X7_length {l : Launch} {b : Nat} {cy : Nat → ClassId} {D : va_G} {d : Nat}   {σ : Sg}   : Es l b cy D (d + 0) yX7_length cX7_length (Option.some Jvm.ClassFile.FieldType.int) 1 [.ref (b + 45)] σ (some (.int (rX7_length σ))) σ := by
  refine Ev.of (by decide) (Nat.le_of_ble_eq_true rfl) rfl ?_
  refine g_aload_n (pc' := 1) dX7_length_0 rfl 0 rfl rfl ?_
  refine g_getI (pc' := 4) dX7_length_1 rfl (PLk.lf fX7_15) o45 rfl ?_
  exact g_iret dX7_length_4 rfl ⟨rfl, rfl⟩ rfl
def rX7_isFull   (σ : Sg) : Bool := if (σ.1 45 1 : Int32) < 60 then false else true
set_option maxRecDepth 100000 in
set_option maxHeartbeats 4000000 in
theorem ev_X7_isFull {l : Launch} {b : Nat} {cy : Nat → ClassId} {D : va_G} {d : Nat}   {σ : Sg}   : Es l b cy D (d + 0) yX7_isFull cX7_isFull (Option.some Jvm.ClassFile.FieldType.boolean) 1 [.ref (b + 45)] σ (some (.int (bI (rX7_isFull σ)))) σ := by
  refine Ev.of (by decide) (Nat.le_of_ble_eq_true rfl) rfl ?_
  refine g_aload_n (pc' := 1) dX7_isFull_0 rfl 0 rfl rfl ?_
  refine g_getI (pc' := 4) dX7_isFull_1 rfl (PLk.lf fX7_15) o45 rfl ?_
  refine g_bipush (pc' := 6) (v := 60) dX7_isFull_4 rfl (by decide) ?_
  refine g_icmp_lt (pc' := 9) (tgt := 13) dX7_isFull_6 rfl (by decide) (fun (c1 : (σ.1 45 1 : Int32) < 60) => ?_) (fun (c1 : ¬ (σ.1 45 1 : Int32) < 60) => ?_)
  · refine g_iconst (pc' := 14) (v := 0) dX7_isFull_13 rfl (by decide) ?_
    exact g_zret dX7_isFull_14 rfl (Or.inl rfl) ⟨rfl, rfl⟩ (by simp only [rX7_isFull, if_pos c1, bI_t, bI_f])
  · refine g_iconst (pc' := 10) (v := 1) dX7_isFull_9 rfl (by decide) ?_
    refine g_goto (tgt := 14) dX7_isFull_10 (by decide) ?_
    exact g_zret dX7_isFull_14 rfl (Or.inr rfl) ⟨rfl, rfl⟩ (by simp only [rX7_isFull, if_neg c1, bI_t, bI_f])
def sX7_clear   (σ : Sg) : Sg := (u2 σ.1 45 1 0, σ.2)
set_option maxRecDepth 100000 in
set_option maxHeartbeats 4000000 in
theorem ev_X7_clear {l : Launch} {b : Nat} {cy : Nat → ClassId} {D : va_G} {d : Nat}   {σ : Sg}   : Es l b cy D (d + 0) yX7_clear cX7_clear (Option.none : Option Jvm.ClassFile.FieldType) 1 [.ref (b + 45)] σ none (sX7_clear σ) := by
  refine Ev.of (by decide) (Nat.le_of_ble_eq_true rfl) rfl ?_
  refine g_aload_n (pc' := 1) dX7_clear_0 rfl 0 rfl rfl ?_
  refine g_iconst (pc' := 2) (v := 0) dX7_clear_1 rfl (by decide) ?_
  refine g_putI (pc' := 5) dX7_clear_2 rfl fX7_15 o45 rfl ?_
  exact g_vret dX7_clear_5 rfl ⟨rfl, rfl⟩ rfl
def rX7_faultPlace   (σ : Sg) : Int32 := σ.1 45 2
set_option maxRecDepth 100000 in
set_option maxHeartbeats 4000000 in
theorem ev_X7_faultPlace {l : Launch} {b : Nat} {cy : Nat → ClassId} {D : va_G} {d : Nat}   {σ : Sg}   : Es l b cy D (d + 0) yX7_faultPlace cX7_faultPlace (Option.some Jvm.ClassFile.FieldType.int) 1 [.ref (b + 45)] σ (some (.int (rX7_faultPlace σ))) σ := by
  refine Ev.of (by decide) (Nat.le_of_ble_eq_true rfl) rfl ?_
  refine g_aload_n (pc' := 1) dX7_faultPlace_0 rfl 0 rfl rfl ?_
  refine g_getI (pc' := 4) dX7_faultPlace_1 rfl (PLk.lf fX7_19) o45 rfl ?_
  exact g_iret dX7_faultPlace_4 rfl ⟨rfl, rfl⟩ rfl
theorem tfull {n : Nat} {σ : Sg} (hz : σ.1 45 1 = nI n) (hn : n ≤ 60) (c : rX7_isFull σ = false) : n < 60 := by
  unfold rX7_isFull at c
  by_cases h : σ.1 45 1 < 60
  · exact nlt' (a := n) (c := 60) h hz rfl (by omega) (by omega)
  · rw [if_neg h] at c; cases c
theorem mbl_1 (k : Nat) (x : Int32) (σ : Sg) : (sX6_multiplyByLetter k x σ).1 = σ.1 := by
  unfold sX6_multiplyByLetter
  split; rfl; split; rfl; split; rfl; split; rfl; split; rfl; split; rfl; rfl
def spF (i : Nat) : Nat → Nat → Sg → Int32 × Sg
  | 0, _, σ => (0, σ)
  | m + 1, j, σ => if rX6_multiplyByLetter i (σ.1 46 j) σ = true then (if rX6_isWithinBounds i (sX6_multiplyByLetter i (σ.1 46 j) σ) = true then spF i m (j + 1) (sX6_multiplyByLetter i (σ.1 46 j) σ) else (2, (u2 (sX6_multiplyByLetter i (σ.1 46 j) σ).1 45 2 (nI j), (sX6_multiplyByLetter i (σ.1 46 j) σ).2))) else (1, (u2 (sX6_multiplyByLetter i (σ.1 46 j) σ).1 45 2 (nI j), (sX6_multiplyByLetter i (σ.1 46 j) σ).2))
def sp0 (i : Nat) (σ : Sg) : Sg := (u2 (sX6_setOne i σ).1 45 2 (-1), (sX6_setOne i σ).2)
def sX7_append (n : Nat) (x1 : Int32) (σ : Sg) : Sg := if (rX7_isFull σ) = true then σ else (u2 (u2 σ.1 46 n x1) 45 1 (((u2 σ.1 46 n x1) 45 1) + 1), σ.2)
set_option maxRecDepth 100000 in
set_option maxHeartbeats 4000000 in
theorem ev_X7_append {l : Launch} {b : Nat} {cy : Nat → ClassId} {D : va_G} {d : Nat} {n : Nat} {x1 : Int32} {σ : Sg}  (hz : σ.1 45 1 = nI n) (hn : n ≤ 60) : Es l b cy D (d + 1) yX7_append cX7_append (Option.none : Option Jvm.ClassFile.FieldType) 2 [.ref (b + 45), .int (x1)] σ none (sX7_append n x1 σ) := by
  refine Ev.of (by decide) (Nat.le_of_ble_eq_true rfl) rfl ?_
  refine g_aload_n (pc' := 1) dX7_append_0 rfl 0 rfl rfl ?_
  refine g_callr (pc' := 4) dX7_append_1 rfl mX7_22 (ev_X7_isFull  (σ := σ)  (d := d)) o45 rfl (rm_ok (by omega) (by decide)) ⟨rfl, rfl⟩ ⟨Nat.zero_le _, Nat.zero_le _⟩ rfl rfl (Nat.le_of_ble_eq_true rfl) ?_
  refine g_ifb_ne (pc' := 7) (tgt := 27) dX7_append_4 rfl (by decide) (fun (c1 : (rX7_isFull σ) = true) => ?_) (fun (c1 : (rX7_isFull σ) = false) => ?_)
  · exact g_vret dX7_append_27 rfl ⟨rfl, rfl⟩ (by simp only [sX7_append, if_pos c1, bI_t, bI_f])
  · have hn60 := tfull hz hn c1
    refine g_aload_n (pc' := 8) dX7_append_7 rfl 0 rfl rfl ?_
    refine g_getR (pc' := 11) (a := 46) dX7_append_8 rfl (PLk.lf fX7_9) o45 rfl ?_
    refine g_aload_n (pc' := 12) dX7_append_11 rfl 0 rfl rfl ?_
    refine g_getI (pc' := 15) dX7_append_12 rfl (PLk.lf fX7_15) o45 rfl ?_
    refine g_iload_n (pc' := 16) dX7_append_15 rfl 1 rfl rfl ?_
    refine g_iast (pc' := 17) (j := n) dX7_append_16 rfl (by decide) o46 (by decide) hz hn60 ?_
    refine g_aload_n (pc' := 18) dX7_append_17 rfl 0 rfl rfl ?_
    refine g_dup (pc' := 19) dX7_append_18 rfl rfl ?_
    refine g_getI (pc' := 22) dX7_append_19 rfl (PLk.lf fX7_15) o45 rfl ?_
    refine g_iconst (pc' := 23) (v := 1) dX7_append_22 rfl (by decide) ?_
    refine g_iadd (pc' := 24) dX7_append_23 rfl ?_
    refine g_putI (pc' := 27) dX7_append_24 rfl fX7_15 o45 rfl ?_
    exact g_vret dX7_append_27 rfl ⟨rfl, rfl⟩ (by simp only [sX7_append, if_neg (bf c1), bI_t, bI_f])
set_option maxRecDepth 100000 in
set_option maxHeartbeats 4000000 in
theorem lp_spell {l : Launch} {b : Nat} {cy : Nat → ClassId} {D : va_G} {d : Nat} {i : Nat}  {n : Nat}  (hi : Sq i) (hn : n ≤ 60) : ∀ (m : Nat) (j : Nat) (σ : Sg), j + m = n → σ.1 45 1 = nI n → Gs l b cy D (d + 2) yX7_spell cX7_spell (Option.some Jvm.ClassFile.FieldType.int) 3 (some (.int (spF i m j σ).1)) (spF i m j σ).2 11 [(0, .ref (b + 45)), (1, .ref (b + i)), (2, .int (nI j))] [] σ := by
  intro m
  induction m with
  | zero =>
    intro j σ hj hz
    refine g_iload_n (pc' := 12) dX7_spell_11 rfl 2 rfl rfl ?_
    refine g_aload_n (pc' := 13) dX7_spell_12 rfl 0 rfl rfl ?_
    refine g_getI (pc' := 16) dX7_spell_13 rfl (PLk.lf fX7_15) o45 rfl ?_
    refine g_icmp_ge (pc' := 19) (tgt := 59) dX7_spell_16 rfl (by decide) (fun (c1 : (σ.1 45 1 : Int32) ≤ (nI j)) => ?_) (fun (c1 : ¬ (σ.1 45 1 : Int32) ≤ (nI j)) => ?_)
    · refine g_iconst (pc' := 60) (v := 0) dX7_spell_59 rfl (by decide) ?_
      exact g_iret dX7_spell_60 rfl ⟨rfl, rfl⟩ rfl
    · exact absurd (by rw [hz]; exact (nI_leI (by omega) (by omega)).mpr (by omega)) c1
  | succ m ih =>
    intro j σ hj hz
    refine g_iload_n (pc' := 12) dX7_spell_11 rfl 2 rfl rfl ?_
    refine g_aload_n (pc' := 13) dX7_spell_12 rfl 0 rfl rfl ?_
    refine g_getI (pc' := 16) dX7_spell_13 rfl (PLk.lf fX7_15) o45 rfl ?_
    refine g_icmp_ge (pc' := 19) (tgt := 59) dX7_spell_16 rfl (by decide) (fun (c1 : (σ.1 45 1 : Int32) ≤ (nI j)) => ?_) (fun (c1 : ¬ (σ.1 45 1 : Int32) ≤ (nI j)) => ?_)
    · exact absurd (nle (a := n) (c := j) c1 hz rfl (by omega) (by omega)) (by omega)
    · refine g_aload_n (pc' := 20) dX7_spell_19 rfl 1 rfl rfl ?_
      refine g_aload_n (pc' := 21) dX7_spell_20 rfl 0 rfl rfl ?_
      refine g_getR (pc' := 24) (a := 46) dX7_spell_21 rfl (PLk.lf fX7_9) o45 rfl ?_
      refine g_iload_n (pc' := 25) dX7_spell_24 rfl 2 rfl rfl ?_
      refine g_iald (pc' := 26) (j := j) dX7_spell_25 rfl o46 (by decide) rfl (by omega) ?_
      refine g_callr (pc' := 29) dX7_spell_26 rfl mX7_31 (ev_X6_multiplyByLetter (k := i) (x1 := σ.1 46 j) (σ := σ) hi (d := d)) hi rfl (rm_ok (by omega) (by decide)) ⟨rfl, rfl⟩ ⟨Nat.zero_le _, Nat.zero_le _⟩ rfl rfl (Nat.le_of_ble_eq_true rfl) ?_
      refine g_ifb_ne (pc' := 32) (tgt := 39) dX7_spell_29 rfl (by decide) (fun (c2 : (rX6_multiplyByLetter i (σ.1 46 j) σ) = true) => ?_) (fun (c2 : (rX6_multiplyByLetter i (σ.1 46 j) σ) = false) => ?_)
      · refine g_aload_n (pc' := 40) dX7_spell_39 rfl 1 rfl rfl ?_
        refine g_callr (pc' := 43) dX7_spell_40 rfl mX7_35 (ev_X6_isWithinBounds (k := i) (σ := sX6_multiplyByLetter i (σ.1 46 j) σ) hi (d := d)) hi rfl (rm_ok (by omega) (by decide)) ⟨rfl, rfl⟩ ⟨Nat.zero_le _, Nat.zero_le _⟩ rfl rfl (Nat.le_of_ble_eq_true rfl) ?_
        refine g_ifb_ne (pc' := 46) (tgt := 53) dX7_spell_43 rfl (by decide) (fun (c3 : (rX6_isWithinBounds i (sX6_multiplyByLetter i (σ.1 46 j) σ)) = true) => ?_) (fun (c3 : (rX6_isWithinBounds i (sX6_multiplyByLetter i (σ.1 46 j) σ)) = false) => ?_)
        · refine g_iinc (pc' := 56) (v := nI (j + 1)) (lv' := [(2, .int (nI (j + 1))), (0, .ref (b + 45)), (1, .ref (b + i))]) dX7_spell_53 rfl 2 rfl (nI_1 j) (by decide) rfl ?_
          refine g_goto (tgt := 11) dX7_spell_56 (by decide) ?_
          rw [show spF i (m + 1) j σ = spF i m (j + 1) (sX6_multiplyByLetter i (σ.1 46 j) σ) by simp only [spF, if_pos c2, if_pos c3]]
          refine g_sub [1, 2, 0] rfl ?_
          exact ih (j + 1) (sX6_multiplyByLetter i (σ.1 46 j) σ) (by omega) (by rw [mbl_1]; exact hz)
        · refine g_aload_n (pc' := 47) dX7_spell_46 rfl 0 rfl rfl ?_
          refine g_iload_n (pc' := 48) dX7_spell_47 rfl 2 rfl rfl ?_
          refine g_putI (pc' := 51) dX7_spell_48 rfl fX7_19 o45 rfl ?_
          refine g_iconst (pc' := 52) (v := 2) dX7_spell_51 rfl (by decide) ?_
          exact g_iret dX7_spell_52 rfl ⟨rfl, rfl⟩ (by simp only [spF, if_pos c2, if_neg (bf c3)])
      · refine g_aload_n (pc' := 33) dX7_spell_32 rfl 0 rfl rfl ?_
        refine g_iload_n (pc' := 34) dX7_spell_33 rfl 2 rfl rfl ?_
        refine g_putI (pc' := 37) dX7_spell_34 rfl fX7_19 o45 rfl ?_
        refine g_iconst (pc' := 38) (v := 1) dX7_spell_37 rfl (by decide) ?_
        exact g_iret dX7_spell_38 rfl ⟨rfl, rfl⟩ (by simp only [spF, if_neg (bf c2)])
set_option maxRecDepth 100000 in
set_option maxHeartbeats 4000000 in
theorem ev_X7_spell {l : Launch} {b : Nat} {cy : Nat → ClassId} {D : va_G} {d : Nat} {i : Nat}  {n : Nat} {σ : Sg} (hi : Sq i) (hz : σ.1 45 1 = nI n) (hn : n ≤ 60) : Es l b cy D (d + 2) yX7_spell cX7_spell (Option.some Jvm.ClassFile.FieldType.int) 3 [.ref (b + 45), .ref (b + i)] σ (some (.int ((spF i n 0 (sp0 i σ)).1))) ((spF i n 0 (sp0 i σ)).2) := by
  refine Ev.of (by decide) (Nat.le_of_ble_eq_true rfl) rfl ?_
  refine g_aload_n (pc' := 1) dX7_spell_0 rfl 1 rfl rfl ?_
  refine g_callv (pc' := 4) dX7_spell_1 rfl mX7_26 (ev_X6_setOne (k := i) (σ := σ) hi (d := d)) hi rfl (rm_ok (by omega) (by decide)) ⟨rfl, rfl⟩ ⟨Nat.zero_le _, Nat.zero_le _⟩ rfl rfl (Nat.le_of_ble_eq_true rfl) ?_
  refine g_aload_n (pc' := 5) dX7_spell_4 rfl 0 rfl rfl ?_
  refine g_iconst (pc' := 6) (v := -1) dX7_spell_5 rfl (by decide) ?_
  refine g_putI (pc' := 9) dX7_spell_6 rfl fX7_19 o45 rfl ?_
  refine g_iconst (pc' := 10) (v := 0) dX7_spell_9 rfl (by decide) ?_
  refine g_istore_n (pc' := 11) (j := 2) (lv' := [(2, .int (0)), (0, .ref (b + 45)), (1, .ref (b + i))]) dX7_spell_10 rfl rfl (by decide) rfl ?_
  refine g_sub [1, 2, 0] rfl ?_
  exact lp_spell hi hn n 0 (sp0 i σ) (by omega) (by unfold sp0; dsimp only; rw [u2_j (by decide)]; exact hz)
