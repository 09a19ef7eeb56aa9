noncomputable section
theorem in_i {x : Int32} {p q : Int64} {σ : Sg} : rX11_in x.toInt64 p q σ = true ↔ p.toInt ≤ x.toInt ∧ x.toInt ≤ q.toInt := by
  have e : x.toInt64.toInt = x.toInt := Int32.toInt_toInt64 x
  have l1 : x.toInt64 < p ↔ x.toInt64.toInt < p.toInt := Int64.lt_iff_toInt_lt
  have l2 : q < x.toInt64 ↔ q.toInt < x.toInt64.toInt := Int64.lt_iff_toInt_lt
  rw [e] at l1 l2
  unfold rX11_in
  by_cases h : x.toInt64 < p
  · rw [if_pos h]
    exact ⟨fun z => (nomatch z), fun z => absurd (l1.mp h) (by omega)⟩
  · rw [if_neg h]
    have h' := mt l1.mpr h
    by_cases k : q < x.toInt64
    · rw [if_pos k]
      exact ⟨fun z => (nomatch z), fun z => absurd (l2.mp k) (by omega)⟩
    · rw [if_neg k]
      have k' := mt l2.mpr k
      exact ⟨fun _ => ⟨by omega, by omega⟩, fun _ => rfl⟩
theorem nI_int {n : Nat} (h : n < 2 ^ 31) : (nI n).toInt = n := by unfold nI; exact Int32.toInt_ofNat_of_lt h
theorem nIm1 {n : Nat} (h : n < 2 ^ 31) : (nI n - 1).toInt = n - 1 := by
  rw [Int32.toInt_sub, nI_int h, show (1 : Int32).toInt = 1 from rfl]
  exact Int.bmod_eq_of_le (by omega) (by omega)
theorem isq {x : Int32} {n : Nat} {σ : Sg} (hz : σ.1 160 0 = nI n) (hn : n ≤ 12) (h : rX11_isSquare x σ = true) : x = nI x.toNatClampNeg ∧ x.toNatClampNeg < n := by
  have e := in_i.mp h
  rw [hz, Int32.toInt_toInt64, nIm1 (by omega), show (0 : Int64).toInt = 0 from rfl] at e
  have h0 : ¬ x < 0 := by rw [Int32.lt_iff_toInt_lt, show (0 : Int32).toInt = 0 from rfl]; omega
  refine ⟨nI_self h0, ?_⟩
  rw [Int32.toNatClampNeg]
  omega
def twF (ρ : Sg) : Sg := sX11_takes (ρ.2 159 14) (0 - ρ.2 159 12) (0 - ρ.2 159 13) (ρ.2 159 11) ρ
def miF (ρ : Sg) : Sg := sX11_takes (ρ.2 159 11) (0 - ρ.2 159 12) (0 - ρ.2 159 13) (ρ.2 159 14) ρ
/-- what is on the shelf can be known -/
def NowOk (f : Nat → Int32) (n : Nat) : Prop := ∀ s, s < n → ∀ (τ : Sg) (x : Int32), τ.1 160 = f → KnOk (sX11_takesFrom s x τ) ∧ KnOk (twF (sX11_takesFrom s x τ)) ∧ KnOk (miF (sX11_takesFrom s x τ))
def I10 (a j : Nat) : Bool := I8 a j || a == 169 || (a == 159 && (j == 26 || j == 29 || j == 30))
def L10 (a j : Nat) : Bool := L8 a j || a == 170 || (a == 159 && (j == 27 || j == 28 || j == 31))
theorem m810i (a j : Nat) (h : I10 a j = false) : I8 a j = false := by
  unfold I10 at h
  simp only [Bool.or_eq_false_iff] at h
  exact h.1.1
theorem m810l (a j : Nat) (h : L10 a j = false) : L8 a j = false := by
  unfold L10 at h
  simp only [Bool.or_eq_false_iff] at h
  exact h.1.1
theorem kq_kn {σ : Sg} (h : KnOk σ) : Kq I10 L10 σ (sKn σ) := (kq_sKn h).mono m810i m810l
theorem kq_tk10 {x y z w : Int64} {σ : Sg} : Kq I10 L10 σ (sX11_takes x y z w σ) := kq_tk.mono m810i m810l
theorem kq_tf {s : Nat} {x : Int32} {σ : Sg} : Kq I10 L10 σ (sX11_takesFrom s x σ) := kq_tk10
theorem d170 (j : Nat) : I10 169 j = true := by unfold I10; simp
theorem kq_pa : ∀ (m k : Nat) (σ : Sg), Kq I10 L10 σ (paF m k σ)
  | 0, _, _ => Kq.rfl
  | m + 1, k, σ => (Kq.i (τ := σ) (d170 k) Kq.rfl).trans (kq_pa m (k + 1) _)
theorem kq_pa0 {σ : Sg} : Kq I10 L10 σ (pa0 σ) := by
  unfold pa0
  exact (((((Kq.i (τ := σ) (a := 159) (j := 26) (Eq.refl _) Kq.rfl).trans (Kq.i (a := 159) (j := 29) (Eq.refl _) Kq.rfl)).trans (Kq.i (a := 159) (j := 30) (Eq.refl _) Kq.rfl)).trans (Kq.l (a := 159) (j := 27) (Eq.refl _) Kq.rfl)).trans (Kq.l (a := 159) (j := 28) (Eq.refl _) Kq.rfl)).trans (Kq.l (a := 159) (j := 31) (Eq.refl _) Kq.rfl)
theorem kq161 {σ τ : Sg} (h : Kq I10 L10 σ τ) : τ.1 160 = σ.1 160 := funext fun j => h.1 160 j (Eq.refl _)
theorem kq166 {σ τ : Sg} (h : Kq I10 L10 σ τ) : τ.1 165 = σ.1 165 := funext fun j => h.1 165 j (Eq.refl _)
def sX11_asides (n : Nat) (s : Nat) (x1 : Int32) (σ : Sg) : Sg := paF (kM (sX11_takesFrom s x1 σ)) 0 (pa0 (sKn (sX11_takesFrom s x1 σ)))
set_option maxRecDepth 100000 in
set_option maxHeartbeats 4000000 in
theorem ev_X11_asides {l : Launch} {b : Nat} {cy : Nat → ClassId} {D : va_G} {d : Nat} {n : Nat} {s : Nat} {x1 : Int32} {σ : Sg}  (hN : NowOk (σ.1 160) n) (hn : n ≤ 12) (q1 : x1 = nI s) (hs : s < n) : Es l b cy D (d + 4) yX11_asides cX11_asides (Option.none : Option Jvm.ClassFile.FieldType) 2 [.ref (b + 159), .int (x1)] σ none (sX11_asides n s x1 σ) := by
  refine Ev.of (by decide) (Nat.le_of_ble_eq_true rfl) rfl ?_
  refine g_aload_n (pc' := 1) dX11_asides_0 rfl 0 rfl rfl ?_
  refine g_iload_n (pc' := 2) dX11_asides_1 rfl 1 rfl rfl ?_
  refine g_callv (pc' := 5) dX11_asides_2 rfl mX11_207 (ev_X11_takesFrom (s := s) (x1 := x1) (σ := σ) q1 (Nat.lt_of_lt_of_le hs hn) (d := d + 2)) o159 rfl (rm_ok (by omega) (by decide)) ⟨rfl, rfl⟩ ⟨Nat.zero_le _, Nat.zero_le _⟩ rfl rfl (Nat.le_of_ble_eq_true rfl) ?_
  refine g_aload_n (pc' := 6) dX11_asides_5 rfl 0 rfl rfl ?_
  refine g_callv (pc' := 9) dX11_asides_6 rfl mX11_210 (ev_X11_knows (σ := sX11_takesFrom s x1 σ) (hN s hs σ x1 rfl).1 (d := d)) o159 rfl (rm_ok (by omega) (by decide)) ⟨rfl, rfl⟩ ⟨Nat.zero_le _, Nat.zero_le _⟩ rfl rfl (Nat.le_of_ble_eq_true rfl) ?_
  refine g_aload_n (pc' := 10) dX11_asides_9 rfl 0 rfl rfl ?_
  refine g_callv (pc' := 13) dX11_asides_10 rfl mX11_213 (ev_X11_putsAside (n := kM (sX11_takesFrom s x1 σ)) (σ := sKn (sX11_takesFrom s x1 σ)) (kM_ok (hN s hs σ x1 rfl).1).1 (Nat.le_trans (kM_ok (hN s hs σ x1 rfl).1).2 (by decide)) (d := d + 3)) o159 rfl (rm_ok (by omega) (by decide)) ⟨rfl, rfl⟩ ⟨Nat.zero_le _, Nat.zero_le _⟩ rfl rfl (Nat.le_of_ble_eq_true rfl) ?_
  exact g_vret dX11_asides_13 rfl ⟨rfl, rfl⟩ rfl
theorem kq_as {n s : Nat} {x1 : Int32} {σ : Sg} (h : KnOk (sX11_takesFrom s x1 σ)) : Kq I10 L10 σ (sX11_asides n s x1 σ) := ((kq_tf.trans (kq_kn h)).trans kq_pa0).trans (kq_pa _ _ _)
def rX11_areAlike (n : Nat) (s : Nat) (u : Nat) (x1 : Int32) (x2 : Int32) (σ : Sg) : Bool := ialF ((sKn (sX11_takesFrom u x2 (sX11_asides n s x1 σ))).1 166) ((sKn (sX11_takesFrom u x2 (sX11_asides n s x1 σ))).1 169) (kM (sX11_takesFrom u x2 (sX11_asides n s x1 σ))) 0 (ial0 (sKn (sX11_takesFrom u x2 (sX11_asides n s x1 σ))))
def sX11_areAlike (n : Nat) (s : Nat) (u : Nat) (x1 : Int32) (x2 : Int32) (σ : Sg) : Sg := sKn (sX11_takesFrom u x2 (sX11_asides n s x1 σ))
set_option maxRecDepth 100000 in
set_option maxHeartbeats 4000000 in
theorem ev_X11_areAlike {l : Launch} {b : Nat} {cy : Nat → ClassId} {D : va_G} {d : Nat} {n : Nat} {s : Nat} {u : Nat} {x1 : Int32} {x2 : Int32} {σ : Sg}  (hN : NowOk (σ.1 160) n) (hn : n ≤ 12) (q1 : x1 = nI s) (hs : s < n) (q2 : x2 = nI u) (hv : u < n) : Es l b cy D (d + 5) yX11_areAlike cX11_areAlike (Option.some Jvm.ClassFile.FieldType.boolean) 3 [.ref (b + 159), .int (x1), .int (x2)] σ (some (.int (bI (rX11_areAlike n s u x1 x2 σ)))) (sX11_areAlike n s u x1 x2 σ) := by
  refine Ev.of (by decide) (Nat.le_of_ble_eq_true rfl) rfl ?_
  refine g_aload_n (pc' := 1) dX11_areAlike_0 rfl 0 rfl rfl ?_
  refine g_iload_n (pc' := 2) dX11_areAlike_1 rfl 1 rfl rfl ?_
  refine g_callv (pc' := 5) dX11_areAlike_2 rfl mX11_216 (ev_X11_asides (n := n) (s := s) (x1 := x1) (σ := σ) hN hn q1 hs (d := d)) o159 rfl (rm_ok (by omega) (by decide)) ⟨rfl, rfl⟩ ⟨Nat.zero_le _, Nat.zero_le _⟩ rfl rfl (Nat.le_of_ble_eq_true rfl) ?_
  refine g_aload_n (pc' := 6) dX11_areAlike_5 rfl 0 rfl rfl ?_
  refine g_iload_n (pc' := 7) dX11_areAlike_6 rfl 2 rfl rfl ?_
  refine g_callv (pc' := 10) dX11_areAlike_7 rfl mX11_207 (ev_X11_takesFrom (s := u) (x1 := x2) (σ := sX11_asides n s x1 σ) q2 (Nat.lt_of_lt_of_le hv hn) (d := d + 3)) o159 rfl (rm_ok (by omega) (by decide)) ⟨rfl, rfl⟩ ⟨Nat.zero_le _, Nat.zero_le _⟩ rfl rfl (Nat.le_of_ble_eq_true rfl) ?_
  refine g_aload_n (pc' := 11) dX11_areAlike_10 rfl 0 rfl rfl ?_
  refine g_callv (pc' := 14) dX11_areAlike_11 rfl mX11_210 (ev_X11_knows (σ := sX11_takesFrom u x2 (sX11_asides n s x1 σ)) (hN u hv (sX11_asides n s x1 σ) x2 (kq161 (kq_as (n := n) (hN s hs σ x1 rfl).1))).1 (d := d + 1)) o159 rfl (rm_ok (by omega) (by decide)) ⟨rfl, rfl⟩ ⟨Nat.zero_le _, Nat.zero_le _⟩ rfl rfl (Nat.le_of_ble_eq_true rfl) ?_
  refine g_aload_n (pc' := 15) dX11_areAlike_14 rfl 0 rfl rfl ?_
  refine g_callr (pc' := 18) dX11_areAlike_15 rfl mX11_219 (ev_X11_isAlike (n := kM (sX11_takesFrom u x2 (sX11_asides n s x1 σ))) (σ := sKn (sX11_takesFrom u x2 (sX11_asides n s x1 σ))) (kM_ok (hN u hv (sX11_asides n s x1 σ) x2 (kq161 (kq_as (n := n) (hN s hs σ x1 rfl).1))).1).1 (Nat.le_trans (kM_ok (hN u hv (sX11_asides n s x1 σ) x2 (kq161 (kq_as (n := n) (hN s hs σ x1 rfl).1))).1).2 (by decide)) (d := d + 4)) o159 rfl (rm_ok (by omega) (by decide)) ⟨rfl, rfl⟩ ⟨Nat.zero_le _, Nat.zero_le _⟩ rfl rfl (Nat.le_of_ble_eq_true rfl) ?_
  exact g_zret dX11_areAlike_18 rfl (bI_01 _) ⟨rfl, rfl⟩ rfl
def rX11_isTwin (n : Nat) (s : Nat) (x1 : Int32) (σ : Sg) : Bool := ialF ((sKn (sX11_takes (((sX11_takesFrom s x1 (sX11_asides n s x1 σ)).2) 159 14) (0 - (((sX11_takesFrom s x1 (sX11_asides n s x1 σ)).2) 159 12)) (0 - (((sX11_takesFrom s x1 (sX11_asides n s x1 σ)).2) 159 13)) (((sX11_takesFrom s x1 (sX11_asides n s x1 σ)).2) 159 11) (sX11_takesFrom s x1 (sX11_asides n s x1 σ)))).1 166) ((sKn (sX11_takes (((sX11_takesFrom s x1 (sX11_asides n s x1 σ)).2) 159 14) (0 - (((sX11_takesFrom s x1 (sX11_asides n s x1 σ)).2) 159 12)) (0 - (((sX11_takesFrom s x1 (sX11_asides n s x1 σ)).2) 159 13)) (((sX11_takesFrom s x1 (sX11_asides n s x1 σ)).2) 159 11) (sX11_takesFrom s x1 (sX11_asides n s x1 σ)))).1 169) (kM (twF (sX11_takesFrom s x1 (sX11_asides n s x1 σ)))) 0 (ial0 (sKn (sX11_takes (((sX11_takesFrom s x1 (sX11_asides n s x1 σ)).2) 159 14) (0 - (((sX11_takesFrom s x1 (sX11_asides n s x1 σ)).2) 159 12)) (0 - (((sX11_takesFrom s x1 (sX11_asides n s x1 σ)).2) 159 13)) (((sX11_takesFrom s x1 (sX11_asides n s x1 σ)).2) 159 11) (sX11_takesFrom s x1 (sX11_asides n s x1 σ)))))
def sX11_isTwin (n : Nat) (s : Nat) (x1 : Int32) (σ : Sg) : Sg := sKn (sX11_takes (((sX11_takesFrom s x1 (sX11_asides n s x1 σ)).2) 159 14) (0 - (((sX11_takesFrom s x1 (sX11_asides n s x1 σ)).2) 159 12)) (0 - (((sX11_takesFrom s x1 (sX11_asides n s x1 σ)).2) 159 13)) (((sX11_takesFrom s x1 (sX11_asides n s x1 σ)).2) 159 11) (sX11_takesFrom s x1 (sX11_asides n s x1 σ)))
set_option maxRecDepth 100000 in
set_option maxHeartbeats 4000000 in
theorem ev_X11_isTwin {l : Launch} {b : Nat} {cy : Nat → ClassId} {D : va_G} {d : Nat} {n : Nat} {s : Nat} {x1 : Int32} {σ : Sg}  (hN : NowOk (σ.1 160) n) (hn : n ≤ 12) (q1 : x1 = nI s) (hs : s < n) : Es l b cy D (d + 5) yX11_isTwin cX11_isTwin (Option.some Jvm.ClassFile.FieldType.boolean) 2 [.ref (b + 159), .int (x1)] σ (some (.int (bI (rX11_isTwin n s x1 σ)))) (sX11_isTwin n s x1 σ) := by
  refine Ev.of (by decide) (Nat.le_of_ble_eq_true rfl) rfl ?_
  refine g_aload_n (pc' := 1) dX11_isTwin_0 rfl 0 rfl rfl ?_
  refine g_iload_n (pc' := 2) dX11_isTwin_1 rfl 1 rfl rfl ?_
  refine g_callv (pc' := 5) dX11_isTwin_2 rfl mX11_216 (ev_X11_asides (n := n) (s := s) (x1 := x1) (σ := σ) hN hn q1 hs (d := d)) o159 rfl (rm_ok (by omega) (by decide)) ⟨rfl, rfl⟩ ⟨Nat.zero_le _, Nat.zero_le _⟩ rfl rfl (Nat.le_of_ble_eq_true rfl) ?_
  refine g_aload_n (pc' := 6) dX11_isTwin_5 rfl 0 rfl rfl ?_
  refine g_iload_n (pc' := 7) dX11_isTwin_6 rfl 1 rfl rfl ?_
  refine g_callv (pc' := 10) dX11_isTwin_7 rfl mX11_207 (ev_X11_takesFrom (s := s) (x1 := x1) (σ := sX11_asides n s x1 σ) q1 (Nat.lt_of_lt_of_le hs hn) (d := d + 3)) o159 rfl (rm_ok (by omega) (by decide)) ⟨rfl, rfl⟩ ⟨Nat.zero_le _, Nat.zero_le _⟩ rfl rfl (Nat.le_of_ble_eq_true rfl) ?_
  refine g_aload_n (pc' := 11) dX11_isTwin_10 rfl 0 rfl rfl ?_
  refine g_aload_n (pc' := 12) dX11_isTwin_11 rfl 0 rfl rfl ?_
  refine g_getL (pc' := 15) dX11_isTwin_12 rfl (PLk.lf fX11_67) o159 rfl ?_
  refine g_lconst (pc' := 16) (v := 0) dX11_isTwin_15 rfl (by decide) ?_
  refine g_aload_n (pc' := 17) dX11_isTwin_16 rfl 0 rfl rfl ?_
  refine g_getL (pc' := 20) dX11_isTwin_17 rfl (PLk.lf fX11_61) o159 rfl ?_
  refine g_lsub (pc' := 21) dX11_isTwin_20 rfl ?_
  refine g_lconst (pc' := 22) (v := 0) dX11_isTwin_21 rfl (by decide) ?_
  refine g_aload_n (pc' := 23) dX11_isTwin_22 rfl 0 rfl rfl ?_
  refine g_getL (pc' := 26) dX11_isTwin_23 rfl (PLk.lf fX11_64) o159 rfl ?_
  refine g_lsub (pc' := 27) dX11_isTwin_26 rfl ?_
  refine g_aload_n (pc' := 28) dX11_isTwin_27 rfl 0 rfl rfl ?_
  refine g_getL (pc' := 31) dX11_isTwin_28 rfl (PLk.lf fX11_57) o159 rfl ?_
  refine g_callv (pc' := 34) dX11_isTwin_31 rfl mX11_70 (ev_X11_takes (x1 := ((sX11_takesFrom s x1 (sX11_asides n s x1 σ)).2) 159 14) (x2 := 0 - (((sX11_takesFrom s x1 (sX11_asides n s x1 σ)).2) 159 12)) (x3 := 0 - (((sX11_takesFrom s x1 (sX11_asides n s x1 σ)).2) 159 13)) (x4 := ((sX11_takesFrom s x1 (sX11_asides n s x1 σ)).2) 159 11) (σ := sX11_takesFrom s x1 (sX11_asides n s x1 σ))  (d := d + 4)) o159 rfl (rm_ok (by omega) (by decide)) ⟨rfl, rfl⟩ ⟨Nat.zero_le _, Nat.zero_le _⟩ rfl rfl (Nat.le_of_ble_eq_true rfl) ?_
  refine g_aload_n (pc' := 35) dX11_isTwin_34 rfl 0 rfl rfl ?_
  refine g_callv (pc' := 38) dX11_isTwin_35 rfl mX11_210 (ev_X11_knows (σ := sX11_takes (((sX11_takesFrom s x1 (sX11_asides n s x1 σ)).2) 159 14) (0 - (((sX11_takesFrom s x1 (sX11_asides n s x1 σ)).2) 159 12)) (0 - (((sX11_takesFrom s x1 (sX11_asides n s x1 σ)).2) 159 13)) (((sX11_takesFrom s x1 (sX11_asides n s x1 σ)).2) 159 11) (sX11_takesFrom s x1 (sX11_asides n s x1 σ))) (hN s hs (sX11_asides n s x1 σ) x1 (kq161 (kq_as (n := n) (hN s hs σ x1 rfl).1))).2.1 (d := d + 1)) o159 rfl (rm_ok (by omega) (by decide)) ⟨rfl, rfl⟩ ⟨Nat.zero_le _, Nat.zero_le _⟩ rfl rfl (Nat.le_of_ble_eq_true rfl) ?_
  refine g_aload_n (pc' := 39) dX11_isTwin_38 rfl 0 rfl rfl ?_
  refine g_callr (pc' := 42) dX11_isTwin_39 rfl mX11_219 (ev_X11_isAlike (n := kM (twF (sX11_takesFrom s x1 (sX11_asides n s x1 σ)))) (σ := sKn (sX11_takes (((sX11_takesFrom s x1 (sX11_asides n s x1 σ)).2) 159 14) (0 - (((sX11_takesFrom s x1 (sX11_asides n s x1 σ)).2) 159 12)) (0 - (((sX11_takesFrom s x1 (sX11_asides n s x1 σ)).2) 159 13)) (((sX11_takesFrom s x1 (sX11_asides n s x1 σ)).2) 159 11) (sX11_takesFrom s x1 (sX11_asides n s x1 σ)))) (kM_ok (hN s hs (sX11_asides n s x1 σ) x1 (kq161 (kq_as (n := n) (hN s hs σ x1 rfl).1))).2.1).1 (Nat.le_trans (kM_ok (hN s hs (sX11_asides n s x1 σ) x1 (kq161 (kq_as (n := n) (hN s hs σ x1 rfl).1))).2.1).2 (by decide)) (d := d + 4)) o159 rfl (rm_ok (by omega) (by decide)) ⟨rfl, rfl⟩ ⟨Nat.zero_le _, Nat.zero_le _⟩ rfl rfl (Nat.le_of_ble_eq_true rfl) ?_
  exact g_zret dX11_isTwin_42 rfl (bI_01 _) ⟨rfl, rfl⟩ rfl
def rX11_isMirrored (n : Nat) (s : Nat) (x1 : Int32) (σ : Sg) : Bool := ialF ((sKn (sX11_takes (((sX11_takesFrom s x1 (sX11_asides n s x1 σ)).2) 159 11) (0 - (((sX11_takesFrom s x1 (sX11_asides n s x1 σ)).2) 159 12)) (0 - (((sX11_takesFrom s x1 (sX11_asides n s x1 σ)).2) 159 13)) (((sX11_takesFrom s x1 (sX11_asides n s x1 σ)).2) 159 14) (sX11_takesFrom s x1 (sX11_asides n s x1 σ)))).1 166) ((sKn (sX11_takes (((sX11_takesFrom s x1 (sX11_asides n s x1 σ)).2) 159 11) (0 - (((sX11_takesFrom s x1 (sX11_asides n s x1 σ)).2) 159 12)) (0 - (((sX11_takesFrom s x1 (sX11_asides n s x1 σ)).2) 159 13)) (((sX11_takesFrom s x1 (sX11_asides n s x1 σ)).2) 159 14) (sX11_takesFrom s x1 (sX11_asides n s x1 σ)))).1 169) (kM (miF (sX11_takesFrom s x1 (sX11_asides n s x1 σ)))) 0 (ial0 (sKn (sX11_takes (((sX11_takesFrom s x1 (sX11_asides n s x1 σ)).2) 159 11) (0 - (((sX11_takesFrom s x1 (sX11_asides n s x1 σ)).2) 159 12)) (0 - (((sX11_takesFrom s x1 (sX11_asides n s x1 σ)).2) 159 13)) (((sX11_takesFrom s x1 (sX11_asides n s x1 σ)).2) 159 14) (sX11_takesFrom s x1 (sX11_asides n s x1 σ)))))
def sX11_isMirrored (n : Nat) (s : Nat) (x1 : Int32) (σ : Sg) : Sg := sKn (sX11_takes (((sX11_takesFrom s x1 (sX11_asides n s x1 σ)).2) 159 11) (0 - (((sX11_takesFrom s x1 (sX11_asides n s x1 σ)).2) 159 12)) (0 - (((sX11_takesFrom s x1 (sX11_asides n s x1 σ)).2) 159 13)) (((sX11_takesFrom s x1 (sX11_asides n s x1 σ)).2) 159 14) (sX11_takesFrom s x1 (sX11_asides n s x1 σ)))
set_option maxRecDepth 100000 in
set_option maxHeartbeats 4000000 in
theorem ev_X11_isMirrored {l : Launch} {b : Nat} {cy : Nat → ClassId} {D : va_G} {d : Nat} {n : Nat} {s : Nat} {x1 : Int32} {σ : Sg}  (hN : NowOk (σ.1 160) n) (hn : n ≤ 12) (q1 : x1 = nI s) (hs : s < n) : Es l b cy D (d + 5) yX11_isMirrored cX11_isMirrored (Option.some Jvm.ClassFile.FieldType.boolean) 2 [.ref (b + 159), .int (x1)] σ (some (.int (bI (rX11_isMirrored n s x1 σ)))) (sX11_isMirrored n s x1 σ) := by
  refine Ev.of (by decide) (Nat.le_of_ble_eq_true rfl) rfl ?_
  refine g_aload_n (pc' := 1) dX11_isMirrored_0 rfl 0 rfl rfl ?_
  refine g_iload_n (pc' := 2) dX11_isMirrored_1 rfl 1 rfl rfl ?_
  refine g_callv (pc' := 5) dX11_isMirrored_2 rfl mX11_216 (ev_X11_asides (n := n) (s := s) (x1 := x1) (σ := σ) hN hn q1 hs (d := d)) o159 rfl (rm_ok (by omega) (by decide)) ⟨rfl, rfl⟩ ⟨Nat.zero_le _, Nat.zero_le _⟩ rfl rfl (Nat.le_of_ble_eq_true rfl) ?_
  refine g_aload_n (pc' := 6) dX11_isMirrored_5 rfl 0 rfl rfl ?_
  refine g_iload_n (pc' := 7) dX11_isMirrored_6 rfl 1 rfl rfl ?_
  refine g_callv (pc' := 10) dX11_isMirrored_7 rfl mX11_207 (ev_X11_takesFrom (s := s) (x1 := x1) (σ := sX11_asides n s x1 σ) q1 (Nat.lt_of_lt_of_le hs hn) (d := d + 3)) o159 rfl (rm_ok (by omega) (by decide)) ⟨rfl, rfl⟩ ⟨Nat.zero_le _, Nat.zero_le _⟩ rfl rfl (Nat.le_of_ble_eq_true rfl) ?_
  refine g_aload_n (pc' := 11) dX11_isMirrored_10 rfl 0 rfl rfl ?_
  refine g_aload_n (pc' := 12) dX11_isMirrored_11 rfl 0 rfl rfl ?_
  refine g_getL (pc' := 15) dX11_isMirrored_12 rfl (PLk.lf fX11_57) o159 rfl ?_
  refine g_lconst (pc' := 16) (v := 0) dX11_isMirrored_15 rfl (by decide) ?_
  refine g_aload_n (pc' := 17) dX11_isMirrored_16 rfl 0 rfl rfl ?_
  refine g_getL (pc' := 20) dX11_isMirrored_17 rfl (PLk.lf fX11_61) o159 rfl ?_
  refine g_lsub (pc' := 21) dX11_isMirrored_20 rfl ?_
  refine g_lconst (pc' := 22) (v := 0) dX11_isMirrored_21 rfl (by decide) ?_
  refine g_aload_n (pc' := 23) dX11_isMirrored_22 rfl 0 rfl rfl ?_
  refine g_getL (pc' := 26) dX11_isMirrored_23 rfl (PLk.lf fX11_64) o159 rfl ?_
  refine g_lsub (pc' := 27) dX11_isMirrored_26 rfl ?_
  refine g_aload_n (pc' := 28) dX11_isMirrored_27 rfl 0 rfl rfl ?_
  refine g_getL (pc' := 31) dX11_isMirrored_28 rfl (PLk.lf fX11_67) o159 rfl ?_
  refine g_callv (pc' := 34) dX11_isMirrored_31 rfl mX11_70 (ev_X11_takes (x1 := ((sX11_takesFrom s x1 (sX11_asides n s x1 σ)).2) 159 11) (x2 := 0 - (((sX11_takesFrom s x1 (sX11_asides n s x1 σ)).2) 159 12)) (x3 := 0 - (((sX11_takesFrom s x1 (sX11_asides n s x1 σ)).2) 159 13)) (x4 := ((sX11_takesFrom s x1 (sX11_asides n s x1 σ)).2) 159 14) (σ := sX11_takesFrom s x1 (sX11_asides n s x1 σ))  (d := d + 4)) o159 rfl (rm_ok (by omega) (by decide)) ⟨rfl, rfl⟩ ⟨Nat.zero_le _, Nat.zero_le _⟩ rfl rfl (Nat.le_of_ble_eq_true rfl) ?_
  refine g_aload_n (pc' := 35) dX11_isMirrored_34 rfl 0 rfl rfl ?_
  refine g_callv (pc' := 38) dX11_isMirrored_35 rfl mX11_210 (ev_X11_knows (σ := sX11_takes (((sX11_takesFrom s x1 (sX11_asides n s x1 σ)).2) 159 11) (0 - (((sX11_takesFrom s x1 (sX11_asides n s x1 σ)).2) 159 12)) (0 - (((sX11_takesFrom s x1 (sX11_asides n s x1 σ)).2) 159 13)) (((sX11_takesFrom s x1 (sX11_asides n s x1 σ)).2) 159 14) (sX11_takesFrom s x1 (sX11_asides n s x1 σ))) (hN s hs (sX11_asides n s x1 σ) x1 (kq161 (kq_as (n := n) (hN s hs σ x1 rfl).1))).2.2 (d := d + 1)) o159 rfl (rm_ok (by omega) (by decide)) ⟨rfl, rfl⟩ ⟨Nat.zero_le _, Nat.zero_le _⟩ rfl rfl (Nat.le_of_ble_eq_true rfl) ?_
  refine g_aload_n (pc' := 39) dX11_isMirrored_38 rfl 0 rfl rfl ?_
  refine g_callr (pc' := 42) dX11_isMirrored_39 rfl mX11_219 (ev_X11_isAlike (n := kM (miF (sX11_takesFrom s x1 (sX11_asides n s x1 σ)))) (σ := sKn (sX11_takes (((sX11_takesFrom s x1 (sX11_asides n s x1 σ)).2) 159 11) (0 - (((sX11_takesFrom s x1 (sX11_asides n s x1 σ)).2) 159 12)) (0 - (((sX11_takesFrom s x1 (sX11_asides n s x1 σ)).2) 159 13)) (((sX11_takesFrom s x1 (sX11_asides n s x1 σ)).2) 159 14) (sX11_takesFrom s x1 (sX11_asides n s x1 σ)))) (kM_ok (hN s hs (sX11_asides n s x1 σ) x1 (kq161 (kq_as (n := n) (hN s hs σ x1 rfl).1))).2.2).1 (Nat.le_trans (kM_ok (hN s hs (sX11_asides n s x1 σ) x1 (kq161 (kq_as (n := n) (hN s hs σ x1 rfl).1))).2.2).2 (by decide)) (d := d + 4)) o159 rfl (rm_ok (by omega) (by decide)) ⟨rfl, rfl⟩ ⟨Nat.zero_le _, Nat.zero_le _⟩ rfl rfl (Nat.le_of_ble_eq_true rfl) ?_
  exact g_zret dX11_isMirrored_42 rfl (bI_01 _) ⟨rfl, rfl⟩ rfl
theorem kq_al {n s u : Nat} {x1 x2 : Int32} {σ : Sg} (hN : NowOk (σ.1 160) n) (hs : s < n) (hv : u < n) : Kq I10 L10 σ (sX11_areAlike n s u x1 x2 σ) := ((kq_as (n := n) (hN s hs σ x1 rfl).1).trans kq_tf).trans (kq_kn (hN u hv (sX11_asides n s x1 σ) x2 (kq161 (kq_as (n := n) (hN s hs σ x1 rfl).1))).1)
theorem kq_tw {n s : Nat} {x1 : Int32} {σ : Sg} (hN : NowOk (σ.1 160) n) (hs : s < n) : Kq I10 L10 σ (sX11_isTwin n s x1 σ) := (((kq_as (n := n) (hN s hs σ x1 rfl).1).trans kq_tf).trans kq_tk10).trans (kq_kn (hN s hs (sX11_asides n s x1 σ) x1 (kq161 (kq_as (n := n) (hN s hs σ x1 rfl).1))).2.1)
theorem kq_mi {n s : Nat} {x1 : Int32} {σ : Sg} (hN : NowOk (σ.1 160) n) (hs : s < n) : Kq I10 L10 σ (sX11_isMirrored n s x1 σ) := (((kq_as (n := n) (hN s hs σ x1 rfl).1).trans kq_tf).trans kq_tk10).trans (kq_kn (hN s hs (sX11_asides n s x1 σ) x1 (kq161 (kq_as (n := n) (hN s hs σ x1 rfl).1))).2.2)
noncomputable def knU (u : Nat) (σ : Sg) : Sg := sKn (sX11_takesFrom u (nI u) σ)
noncomputable def alU (u : Nat) (σ : Sg) : Bool := ialF ((knU u σ).1 166) ((knU u σ).1 169) (kM (sX11_takesFrom u (nI u) σ)) 0 (ial0 (knU u σ))
noncomputable def fmF : Nat → Nat → Int32 → Sg → Int32 × Sg
  | 0, _, x, σ => (x, σ)
  | m + 1, u, x, σ => if alU u σ = true then fmF m (u + 1) (x ||| (1 <<< (nI u &&& 31))) (knU u σ) else fmF m (u + 1) (x ||| 0) (knU u σ)
theorem kq_knU {n u : Nat} {σ : Sg} (hN : NowOk (σ.1 160) n) (hu : u < n) : Kq I10 L10 σ (knU u σ) := kq_tf.trans (kq_kn (hN u hu σ _ rfl).1)
theorem now_tr {σ τ : Sg} {n : Nat} (h : Kq I10 L10 σ τ) (hN : NowOk (σ.1 160) n) : NowOk (τ.1 160) n := (kq161 h).symm ▸ hN
theorem hc_tr {σ τ : Sg} {n : Nat} (h : Kq I10 L10 σ τ) (hc : σ.1 160 0 = nI n) : τ.1 160 0 = nI n := (congrFun (kq161 h) 0).trans hc
theorem kq_fm {n : Nat} : ∀ (m u : Nat) (x : Int32) (σ : Sg), u + m = n → NowOk (σ.1 160) n → Kq I10 L10 σ (fmF m u x σ).2 := by
  intro m
  induction m with
  | zero => intro u x σ _ _; exact Kq.rfl
  | succ m ih =>
    intro u x σ hu hN
    have k := kq_knU hN (show u < n by omega)
    rw [fmF]
    split
    · exact k.trans (ih _ _ _ (by omega) (now_tr k hN))
    · exact k.trans (ih _ _ _ (by omega) (now_tr k hN))
set_option maxRecDepth 100000 in
set_option maxHeartbeats 4000000 in
theorem lp_fm {l : Launch} {b : Nat} {cy : Nat → ClassId} {D : va_G} {d : Nat}   {n : Nat}   (hn : n ≤ 12) : ∀ (m : Nat) (u : Nat) (x : Int32) (σ : Sg), u + m = n → σ.1 160 0 = nI n → NowOk (σ.1 160) n → Gs l b cy D (d + 5) yX11_family cX11_family (Option.some Jvm.ClassFile.FieldType.int) 4 (some (.int (fmF m u x σ).1)) (fmF m u x σ).2 9 [(0, .ref (b + 159)), (2, .int (x)), (3, .int (nI u))] [] σ := by
  intro m
  induction m with
  | zero =>
    intro u x σ hu hc hN
    refine g_iload_n (pc' := 10) dX11_family_9 rfl 2 rfl rfl ?_
    refine g_aload_n (pc' := 11) dX11_family_10 rfl 0 rfl rfl ?_
    refine g_getR (pc' := 14) (a := 160) dX11_family_11 rfl (PLk.lf fX11_7) o159 rfl ?_
    refine g_iconst (pc' := 15) (v := 0) dX11_family_14 rfl (by decide) ?_
    refine g_iald (pc' := 16) (j := 0) dX11_family_15 rfl o160 (by decide) (by decide) (by decide) ?_
    refine g_icmp_ge (pc' := 19) (tgt := 51) dX11_family_16 rfl (by decide) (fun (c1 : (σ.1 160 0 : Int32) ≤ (nI u)) => ?_) (fun (c1 : ¬ (σ.1 160 0 : Int32) ≤ (nI u)) => ?_)
    · refine g_iload_n (pc' := 52) dX11_family_51 rfl 1 rfl rfl ?_
      exact g_iret dX11_family_52 rfl ⟨rfl, rfl⟩ rfl
    · exact absurd (by rw [hc]; exact (nI_leI (by omega) (by omega)).mpr (by omega)) c1
  | succ m ih =>
    intro u x σ hu hc hN
    refine g_iload_n (pc' := 10) dX11_family_9 rfl 2 rfl rfl ?_
    refine g_aload_n (pc' := 11) dX11_family_10 rfl 0 rfl rfl ?_
    refine g_getR (pc' := 14) (a := 160) dX11_family_11 rfl (PLk.lf fX11_7) o159 rfl ?_
    refine g_iconst (pc' := 15) (v := 0) dX11_family_14 rfl (by decide) ?_
    refine g_iald (pc' := 16) (j := 0) dX11_family_15 rfl o160 (by decide) (by decide) (by decide) ?_
    refine g_icmp_ge (pc' := 19) (tgt := 51) dX11_family_16 rfl (by decide) (fun (c1 : (σ.1 160 0 : Int32) ≤ (nI u)) => ?_) (fun (c1 : ¬ (σ.1 160 0 : Int32) ≤ (nI u)) => ?_)
    · exact absurd (nle (a := n) (c := u) c1 hc rfl (by omega) (by omega)) (by omega)
    · refine g_aload_n (pc' := 20) dX11_family_19 rfl 0 rfl rfl ?_
      refine g_iload_n (pc' := 21) dX11_family_20 rfl 2 rfl rfl ?_
      refine g_callv (pc' := 24) dX11_family_21 rfl mX11_207 (ev_X11_takesFrom (s := u) (x1 := nI u) (σ := σ) rfl (by omega) (d := d + 3)) o159 rfl (rm_ok (by omega) (by decide)) ⟨rfl, rfl⟩ ⟨Nat.zero_le _, Nat.zero_le _⟩ rfl rfl (Nat.le_of_ble_eq_true rfl) ?_
      refine g_aload_n (pc' := 25) dX11_family_24 rfl 0 rfl rfl ?_
      refine g_callv (pc' := 28) dX11_family_25 rfl mX11_210 (ev_X11_knows (σ := sX11_takesFrom u (nI u) σ) (hN u (by omega) σ (nI u) rfl).1 (d := d + 1)) o159 rfl (rm_ok (by omega) (by decide)) ⟨rfl, rfl⟩ ⟨Nat.zero_le _, Nat.zero_le _⟩ rfl rfl (Nat.le_of_ble_eq_true rfl) ?_
      refine g_iload_n (pc' := 29) dX11_family_28 rfl 1 rfl rfl ?_
      refine g_aload_n (pc' := 30) dX11_family_29 rfl 0 rfl rfl ?_
      refine g_callr (pc' := 33) dX11_family_30 rfl mX11_219 (ev_X11_isAlike (n := kM (sX11_takesFrom u (nI u) σ)) (σ := sKn (sX11_takesFrom u (nI u) σ)) (kM_ok (hN u (by omega) σ (nI u) rfl).1).1 (Nat.le_trans (kM_ok (hN u (by omega) σ (nI u) rfl).1).2 (by decide)) (d := d + 4)) o159 rfl (rm_ok (by omega) (by decide)) ⟨rfl, rfl⟩ ⟨Nat.zero_le _, Nat.zero_le _⟩ rfl rfl (Nat.le_of_ble_eq_true rfl) ?_
      refine g_ifb_eq (pc' := 36) (tgt := 42) dX11_family_33 rfl (by decide) (fun (c2 : (ialF ((sKn (sX11_takesFrom u (nI u) σ)).1 166) ((sKn (sX11_takesFrom u (nI u) σ)).1 169) (kM (sX11_takesFrom u (nI u) σ)) 0 (ial0 (sKn (sX11_takesFrom u (nI u) σ)))) = false) => ?_) (fun (c2 : (ialF ((sKn (sX11_takesFrom u (nI u) σ)).1 166) ((sKn (sX11_takesFrom u (nI u) σ)).1 169) (kM (sX11_takesFrom u (nI u) σ)) 0 (ial0 (sKn (sX11_takesFrom u (nI u) σ)))) = true) => ?_)
      · refine g_iconst (pc' := 43) (v := 0) dX11_family_42 rfl (by decide) ?_
        refine g_ior (pc' := 44) dX11_family_43 rfl ?_
        refine g_istore_n (pc' := 45) (j := 2) (lv' := [(2, .int (x ||| 0)), (0, .ref (b + 159)), (3, .int (nI u))]) dX11_family_44 rfl rfl (by decide) rfl ?_
        refine g_iinc (pc' := 48) (v := nI (u + 1)) (lv' := [(3, .int (nI (u + 1))), (2, .int (x ||| 0)), (0, .ref (b + 159))]) dX11_family_45 rfl 2 rfl (nI_1 u) (by decide) rfl ?_
        refine g_goto (tgt := 9) dX11_family_48 (by decide) ?_
        rw [show fmF (m + 1) u x σ = fmF m (u + 1) (x ||| 0) (knU u σ) by rw [fmF, if_neg (bf (show alU u σ = false from c2))]]
        refine g_sub [2, 1, 0] rfl ?_
        exact ih (u + 1) _ _ (by omega) (hc_tr (kq_knU hN (by omega)) hc) (now_tr (kq_knU hN (by omega)) hN)
      · refine g_iconst (pc' := 37) (v := 1) dX11_family_36 rfl (by decide) ?_
        refine g_iload_n (pc' := 38) dX11_family_37 rfl 2 rfl rfl ?_
        refine g_ishl (pc' := 39) dX11_family_38 rfl ?_
        refine g_goto (tgt := 43) dX11_family_39 (by decide) ?_
        refine g_ior (pc' := 44) dX11_family_43 rfl ?_
        refine g_istore_n (pc' := 45) (j := 2) (lv' := [(2, .int (x ||| (1 <<< ((nI u) &&& 31)))), (0, .ref (b + 159)), (3, .int (nI u))]) dX11_family_44 rfl rfl (by decide) rfl ?_
        refine g_iinc (pc' := 48) (v := nI (u + 1)) (lv' := [(3, .int (nI (u + 1))), (2, .int (x ||| (1 <<< ((nI u) &&& 31)))), (0, .ref (b + 159))]) dX11_family_45 rfl 2 rfl (nI_1 u) (by decide) rfl ?_
        refine g_goto (tgt := 9) dX11_family_48 (by decide) ?_
        rw [show fmF (m + 1) u x σ = fmF m (u + 1) (x ||| (1 <<< ((nI u) &&& 31))) (knU u σ) by rw [fmF, if_pos (show alU u σ = true from c2)]]
        refine g_sub [2, 1, 0] rfl ?_
        exact ih (u + 1) _ _ (by omega) (hc_tr (kq_knU hN (by omega)) hc) (now_tr (kq_knU hN (by omega)) hN)
set_option maxRecDepth 100000 in
set_option maxHeartbeats 4000000 in
theorem ev_X11_family {l : Launch} {b : Nat} {cy : Nat → ClassId} {D : va_G} {d : Nat}  {x1 : Int32} {n : Nat} {s : Nat} {σ : Sg}  (hN : NowOk (σ.1 160) n) (hn : n ≤ 12) (q1 : x1 = nI s) (hs : s < n) (hc : σ.1 160 0 = nI n) : Es l b cy D (d + 5) yX11_family cX11_family (Option.some Jvm.ClassFile.FieldType.int) 4 [.ref (b + 159), .int (x1)] σ (some (.int ((fmF n 0 0 (sX11_asides n s x1 σ)).1))) ((fmF n 0 0 (sX11_asides n s x1 σ)).2) := by
  refine Ev.of (by decide) (Nat.le_of_ble_eq_true rfl) rfl ?_
  refine g_aload_n (pc' := 1) dX11_family_0 rfl 0 rfl rfl ?_
  refine g_iload_n (pc' := 2) dX11_family_1 rfl 1 rfl rfl ?_
  refine g_callv (pc' := 5) dX11_family_2 rfl mX11_216 (ev_X11_asides (n := n) (s := s) (x1 := x1) (σ := σ) hN hn q1 hs (d := d)) o159 rfl (rm_ok (by omega) (by decide)) ⟨rfl, rfl⟩ ⟨Nat.zero_le _, Nat.zero_le _⟩ rfl rfl (Nat.le_of_ble_eq_true rfl) ?_
  refine g_iconst (pc' := 6) (v := 0) dX11_family_5 rfl (by decide) ?_
  refine g_istore_n (pc' := 7) (j := 2) (lv' := [(2, .int (0)), (0, .ref (b + 159)), (1, .int (x1))]) dX11_family_6 rfl rfl (by decide) rfl ?_
  refine g_iconst (pc' := 8) (v := 0) dX11_family_7 rfl (by decide) ?_
  refine g_istore_n (pc' := 9) (j := 3) (lv' := [(3, .int (0)), (2, .int (0)), (0, .ref (b + 159)), (1, .int (x1))]) dX11_family_8 rfl rfl (by decide) rfl ?_
  refine g_sub [2, 1, 0] rfl ?_
  exact lp_fm hn n 0 0 _ (by omega) (hc_tr (kq_as (n := n) (hN s hs σ x1 rfl).1) hc) (now_tr (kq_as (n := n) (hN s hs σ x1 rfl).1) hN)
noncomputable def fyF (n s : Nat) (σ : Sg) : Int32 × Sg := fmF n 0 0 (sX11_asides n s (nI s) σ)
theorem kq_fy {n s : Nat} {σ : Sg} (hN : NowOk (σ.1 160) n) (hs : s < n) : Kq I10 L10 σ (fyF n s σ).2 := (kq_as (n := n) (hN s hs σ _ rfl).1).trans (kq_fm n 0 0 _ (by omega) (now_tr (kq_as (n := n) (hN s hs σ _ rfl).1) hN))
def bsF (x : Int32) : Int32 := btF (x.toBitVec.toNat + 1) 0 x
noncomputable def fsF (n : Nat) : Nat → Nat → Int32 → Int32 → Sg → (Int32 × Int32) × Sg
  | 0, _, x, y, σ => ((x, y), σ)
  | m + 1, s, x, y, σ => fsF n m (s + 1) (if (fyF n s σ).1 &&& (1 <<< (nI s &&& 31) - 1) = 0 then x + 1 else x + 0) (if bsF (fyF n s σ).1 ≤ bsF y then y else (fyF n s σ).1) (fyF n s σ).2
theorem kq_fs {n : Nat} : ∀ (m s : Nat) (x y : Int32) (σ : Sg), s + m = n → NowOk (σ.1 160) n → Kq I10 L10 σ (fsF n m s x y σ).2 := by
  intro m
  induction m with
  | zero => intro s x y σ _ _; exact Kq.rfl
  | succ m ih =>
    intro s x y σ hu hN
    have k := kq_fy hN (show s < n by omega)
    rw [fsF]
    exact k.trans (ih _ _ _ _ (by omega) (now_tr k hN))
def fsR (w : Int32) (r : (Int32 × Int32) × Sg) : Int32 := if w = 2 then r.1.1 else r.1.2
set_option maxRecDepth 100000 in
set_option maxHeartbeats 4000000 in
theorem lp_fs {l : Launch} {b : Nat} {cy : Nat → ClassId} {D : va_G} {d : Nat}  {x1 : Int32} {n : Nat}   (hn : n ≤ 12) : ∀ (m : Nat) (s : Nat) (x : Int32) (y : Int32) (σ : Sg), s + m = n → σ.1 160 0 = nI n → NowOk (σ.1 160) n → Gs l b cy D (d + 6) yX11_families cX11_families (Option.some Jvm.ClassFile.FieldType.int) 6 (some (.int (fsR x1 (fsF n m s x y σ)))) (fsF n m s x y σ).2 7 [(0, .ref (b + 159)), (1, .int (x1)), (2, .int (x)), (3, .int (y)), (4, .int (nI s))] [] σ := by
  intro m
  induction m with
  | zero =>
    intro s x y σ hu hc hN
    refine g_iload (pc' := 9) dX11_families_7 rfl 4 rfl ?_
    refine g_aload_n (pc' := 10) dX11_families_9 rfl 0 rfl rfl ?_
    refine g_getR (pc' := 13) (a := 160) dX11_families_10 rfl (PLk.lf fX11_7) o159 rfl ?_
    refine g_iconst (pc' := 14) (v := 0) dX11_families_13 rfl (by decide) ?_
    refine g_iald (pc' := 15) (j := 0) dX11_families_14 rfl o160 (by decide) (by decide) (by decide) ?_
    refine g_icmp_ge (pc' := 18) (tgt := 71) dX11_families_15 rfl (by decide) (fun (c1 : (σ.1 160 0 : Int32) ≤ (nI s)) => ?_) (fun (c1 : ¬ (σ.1 160 0 : Int32) ≤ (nI s)) => ?_)
    · refine g_iload_n (pc' := 72) dX11_families_71 rfl 1 rfl rfl ?_
      refine g_iconst (pc' := 73) (v := 2) dX11_families_72 rfl (by decide) ?_
      refine g_icmp_ne (pc' := 76) (tgt := 80) dX11_families_73 rfl (by decide) (fun (c2 : ¬ (x1 : Int32) = 2) => ?_) (fun (c2 : (x1 : Int32) = 2) => ?_)
      · refine g_iload_n (pc' := 81) dX11_families_80 rfl 3 rfl rfl ?_
        exact g_iret dX11_families_81 rfl ⟨rfl, rfl⟩ (by unfold fsR; rw [if_neg c2]; rfl)
      · refine g_iload_n (pc' := 77) dX11_families_76 rfl 2 rfl rfl ?_
        refine g_goto (tgt := 81) dX11_families_77 (by decide) ?_
        exact g_iret dX11_families_81 rfl ⟨rfl, rfl⟩ (by unfold fsR; rw [if_pos c2]; rfl)
    · exact absurd (by rw [hc]; exact (nI_leI (by omega) (by omega)).mpr (by omega)) c1
  | succ m ih =>
    intro s x y σ hu hc hN
    refine g_iload (pc' := 9) dX11_families_7 rfl 4 rfl ?_
    refine g_aload_n (pc' := 10) dX11_families_9 rfl 0 rfl rfl ?_
    refine g_getR (pc' := 13) (a := 160) dX11_families_10 rfl (PLk.lf fX11_7) o159 rfl ?_
    refine g_iconst (pc' := 14) (v := 0) dX11_families_13 rfl (by decide) ?_
    refine g_iald (pc' := 15) (j := 0) dX11_families_14 rfl o160 (by decide) (by decide) (by decide) ?_
    refine g_icmp_ge (pc' := 18) (tgt := 71) dX11_families_15 rfl (by decide) (fun (c1 : (σ.1 160 0 : Int32) ≤ (nI s)) => ?_) (fun (c1 : ¬ (σ.1 160 0 : Int32) ≤ (nI s)) => ?_)
    · exact absurd (nle (a := n) (c := s) c1 hc rfl (by omega) (by omega)) (by omega)
    · refine g_aload_n (pc' := 19) dX11_families_18 rfl 0 rfl rfl ?_
      refine g_iload (pc' := 21) dX11_families_19 rfl 4 rfl ?_
      refine g_callr (pc' := 24) dX11_families_21 rfl mX11_222 (ev_X11_family (x1 := nI s) (n := n) (s := s) (σ := σ) hN hn rfl (by omega) hc (d := d)) o159 rfl (rm_ok (by omega) (by decide)) ⟨rfl, rfl⟩ ⟨Nat.zero_le _, Nat.zero_le _⟩ rfl rfl (Nat.le_of_ble_eq_true rfl) ?_
      refine g_istore (pc' := 26) (j := 5) (lv' := [(5, .int ((fmF n 0 0 (sX11_asides n s (nI s) σ)).1)), (0, .ref (b + 159)), (1, .int (x1)), (2, .int (x)), (3, .int (y)), (4, .int (nI s))]) dX11_families_24 rfl (by decide) rfl ?_
      refine g_iload_n (pc' := 27) dX11_families_26 rfl 3 rfl rfl ?_
      refine g_iload (pc' := 29) dX11_families_27 rfl 0 rfl ?_
      refine g_iconst (pc' := 30) (v := 1) dX11_families_29 rfl (by decide) ?_
      refine g_iload (pc' := 32) dX11_families_30 rfl 5 rfl ?_
      refine g_ishl (pc' := 33) dX11_families_32 rfl ?_
      refine g_iconst (pc' := 34) (v := 1) dX11_families_33 rfl (by decide) ?_
      refine g_isub (pc' := 35) dX11_families_34 rfl ?_
      refine g_iand (pc' := 36) dX11_families_35 rfl ?_
      refine g_if_ne (pc' := 39) (tgt := 43) dX11_families_36 rfl (by decide) (fun (c2 : ¬ (((fmF n 0 0 (sX11_asides n s (nI s) σ)).1) &&& ((1 <<< ((nI s) &&& 31)) - 1) : Int32) = 0) => ?_) (fun (c2 : (((fmF n 0 0 (sX11_asides n s (nI s) σ)).1) &&& ((1 <<< ((nI s) &&& 31)) - 1) : Int32) = 0) => ?_)
      · refine g_iconst (pc' := 44) (v := 0) dX11_families_43 rfl (by decide) ?_
        refine g_iadd (pc' := 45) dX11_families_44 rfl ?_
        refine g_istore_n (pc' := 46) (j := 2) (lv' := [(2, .int (x + 0)), (5, .int ((fmF n 0 0 (sX11_asides n s (nI s) σ)).1)), (0, .ref (b + 159)), (1, .int (x1)), (3, .int (y)), (4, .int (nI s))]) dX11_families_45 rfl rfl (by decide) rfl ?_
        refine g_iload (pc' := 48) dX11_families_46 rfl 1 rfl ?_
        refine g_callsr (pc' := 51) dX11_families_48 rfl mX11_225 (ev_X11_bits (x1 := (fmF n 0 0 (sX11_asides n s (nI s) σ)).1) (σ := (fmF n 0 0 (sX11_asides n s (nI s) σ)).2)  (d := d + 5)) (rm_ok (by omega) (by decide)) ⟨rfl, rfl⟩ ⟨Nat.zero_le _, Nat.zero_le _⟩ rfl rfl (Nat.le_of_ble_eq_true rfl) ?_
        refine g_iload_n (pc' := 52) dX11_families_51 rfl 4 rfl rfl ?_
        refine g_callsr (pc' := 55) dX11_families_52 rfl mX11_225 (ev_X11_bits (x1 := y) (σ := (fmF n 0 0 (sX11_asides n s (nI s) σ)).2)  (d := d + 5)) (rm_ok (by omega) (by decide)) ⟨rfl, rfl⟩ ⟨Nat.zero_le _, Nat.zero_le _⟩ rfl rfl (Nat.le_of_ble_eq_true rfl) ?_
        refine g_icmp_le (pc' := 58) (tgt := 63) dX11_families_55 rfl (by decide) (fun (c3 : (btF (((fmF n 0 0 (sX11_asides n s (nI s) σ)).1).toBitVec.toNat + 1) 0 ((fmF n 0 0 (sX11_asides n s (nI s) σ)).1) : Int32) ≤ (btF (y.toBitVec.toNat + 1) 0 y)) => ?_) (fun (c3 : ¬ (btF (((fmF n 0 0 (sX11_asides n s (nI s) σ)).1).toBitVec.toNat + 1) 0 ((fmF n 0 0 (sX11_asides n s (nI s) σ)).1) : Int32) ≤ (btF (y.toBitVec.toNat + 1) 0 y)) => ?_)
        · refine g_iload_n (pc' := 64) dX11_families_63 rfl 4 rfl rfl ?_
          refine g_istore_n (pc' := 65) (j := 3) (lv' := [(3, .int (y)), (2, .int (x + 0)), (5, .int ((fmF n 0 0 (sX11_asides n s (nI s) σ)).1)), (0, .ref (b + 159)), (1, .int (x1)), (4, .int (nI s))]) dX11_families_64 rfl rfl (by decide) rfl ?_
          refine g_iinc (pc' := 68) (v := nI (s + 1)) (lv' := [(4, .int (nI (s + 1))), (3, .int (y)), (2, .int (x + 0)), (5, .int ((fmF n 0 0 (sX11_asides n s (nI s) σ)).1)), (0, .ref (b + 159)), (1, .int (x1))]) dX11_families_65 rfl 5 rfl (nI_1 s) (by decide) rfl ?_
          refine g_goto (tgt := 7) dX11_families_68 (by decide) ?_
          rw [show fsF n (m + 1) s x y σ = fsF n m (s + 1) (x + 0) y (fyF n s σ).2 by rw [fsF, if_neg (show ¬ (fyF n s σ).1 &&& (1 <<< (nI s &&& 31) - 1) = 0 from c2), if_pos (show bsF (fyF n s σ).1 ≤ bsF y from c3)]]
          refine g_sub [4, 5, 2, 1, 0] rfl ?_
          exact ih (s + 1) _ _ _ (by omega) (hc_tr (kq_fy hN (by omega)) hc) (now_tr (kq_fy hN (by omega)) hN)
        · refine g_iload (pc' := 60) dX11_families_58 rfl 1 rfl ?_
          refine g_goto (tgt := 64) dX11_families_60 (by decide) ?_
          refine g_istore_n (pc' := 65) (j := 3) (lv' := [(3, .int ((fmF n 0 0 (sX11_asides n s (nI s) σ)).1)), (2, .int (x + 0)), (5, .int ((fmF n 0 0 (sX11_asides n s (nI s) σ)).1)), (0, .ref (b + 159)), (1, .int (x1)), (4, .int (nI s))]) dX11_families_64 rfl rfl (by decide) rfl ?_
          refine g_iinc (pc' := 68) (v := nI (s + 1)) (lv' := [(4, .int (nI (s + 1))), (3, .int ((fmF n 0 0 (sX11_asides n s (nI s) σ)).1)), (2, .int (x + 0)), (5, .int ((fmF n 0 0 (sX11_asides n s (nI s) σ)).1)), (0, .ref (b + 159)), (1, .int (x1))]) dX11_families_65 rfl 5 rfl (nI_1 s) (by decide) rfl ?_
          refine g_goto (tgt := 7) dX11_families_68 (by decide) ?_
          rw [show fsF n (m + 1) s x y σ = fsF n m (s + 1) (x + 0) ((fyF n s σ).1) (fyF n s σ).2 by rw [fsF, if_neg (show ¬ (fyF n s σ).1 &&& (1 <<< (nI s &&& 31) - 1) = 0 from c2), if_neg (show ¬ bsF (fyF n s σ).1 ≤ bsF y from c3)]]
          refine g_sub [4, 5, 2, 1, 0] rfl ?_
          exact ih (s + 1) _ _ _ (by omega) (hc_tr (kq_fy hN (by omega)) hc) (now_tr (kq_fy hN (by omega)) hN)
      · refine g_iconst (pc' := 40) (v := 1) dX11_families_39 rfl (by decide) ?_
        refine g_goto (tgt := 44) dX11_families_40 (by decide) ?_
        refine g_iadd (pc' := 45) dX11_families_44 rfl ?_
        refine g_istore_n (pc' := 46) (j := 2) (lv' := [(2, .int (x + 1)), (5, .int ((fmF n 0 0 (sX11_asides n s (nI s) σ)).1)), (0, .ref (b + 159)), (1, .int (x1)), (3, .int (y)), (4, .int (nI s))]) dX11_families_45 rfl rfl (by decide) rfl ?_
        refine g_iload (pc' := 48) dX11_families_46 rfl 1 rfl ?_
        refine g_callsr (pc' := 51) dX11_families_48 rfl mX11_225 (ev_X11_bits (x1 := (fmF n 0 0 (sX11_asides n s (nI s) σ)).1) (σ := (fmF n 0 0 (sX11_asides n s (nI s) σ)).2)  (d := d + 5)) (rm_ok (by omega) (by decide)) ⟨rfl, rfl⟩ ⟨Nat.zero_le _, Nat.zero_le _⟩ rfl rfl (Nat.le_of_ble_eq_true rfl) ?_
        refine g_iload_n (pc' := 52) dX11_families_51 rfl 4 rfl rfl ?_
        refine g_callsr (pc' := 55) dX11_families_52 rfl mX11_225 (ev_X11_bits (x1 := y) (σ := (fmF n 0 0 (sX11_asides n s (nI s) σ)).2)  (d := d + 5)) (rm_ok (by omega) (by decide)) ⟨rfl, rfl⟩ ⟨Nat.zero_le _, Nat.zero_le _⟩ rfl rfl (Nat.le_of_ble_eq_true rfl) ?_
        refine g_icmp_le (pc' := 58) (tgt := 63) dX11_families_55 rfl (by decide) (fun (c4 : (btF (((fmF n 0 0 (sX11_asides n s (nI s) σ)).1).toBitVec.toNat + 1) 0 ((fmF n 0 0 (sX11_asides n s (nI s) σ)).1) : Int32) ≤ (btF (y.toBitVec.toNat + 1) 0 y)) => ?_) (fun (c4 : ¬ (btF (((fmF n 0 0 (sX11_asides n s (nI s) σ)).1).toBitVec.toNat + 1) 0 ((fmF n 0 0 (sX11_asides n s (nI s) σ)).1) : Int32) ≤ (btF (y.toBitVec.toNat + 1) 0 y)) => ?_)
        · refine g_iload_n (pc' := 64) dX11_families_63 rfl 4 rfl rfl ?_
          refine g_istore_n (pc' := 65) (j := 3) (lv' := [(3, .int (y)), (2, .int (x + 1)), (5, .int ((fmF n 0 0 (sX11_asides n s (nI s) σ)).1)), (0, .ref (b + 159)), (1, .int (x1)), (4, .int (nI s))]) dX11_families_64 rfl rfl (by decide) rfl ?_
          refine g_iinc (pc' := 68) (v := nI (s + 1)) (lv' := [(4, .int (nI (s + 1))), (3, .int (y)), (2, .int (x + 1)), (5, .int ((fmF n 0 0 (sX11_asides n s (nI s) σ)).1)), (0, .ref (b + 159)), (1, .int (x1))]) dX11_families_65 rfl 5 rfl (nI_1 s) (by decide) rfl ?_
          refine g_goto (tgt := 7) dX11_families_68 (by decide) ?_
          rw [show fsF n (m + 1) s x y σ = fsF n m (s + 1) (x + 1) y (fyF n s σ).2 by rw [fsF, if_pos (show (fyF n s σ).1 &&& (1 <<< (nI s &&& 31) - 1) = 0 from c2), if_pos (show bsF (fyF n s σ).1 ≤ bsF y from c4)]]
          refine g_sub [4, 5, 2, 1, 0] rfl ?_
          exact ih (s + 1) _ _ _ (by omega) (hc_tr (kq_fy hN (by omega)) hc) (now_tr (kq_fy hN (by omega)) hN)
        · refine g_iload (pc' := 60) dX11_families_58 rfl 1 rfl ?_
          refine g_goto (tgt := 64) dX11_families_60 (by decide) ?_
          refine g_istore_n (pc' := 65) (j := 3) (lv' := [(3, .int ((fmF n 0 0 (sX11_asides n s (nI s) σ)).1)), (2, .int (x + 1)), (5, .int ((fmF n 0 0 (sX11_asides n s (nI s) σ)).1)), (0, .ref (b + 159)), (1, .int (x1)), (4, .int (nI s))]) dX11_families_64 rfl rfl (by decide) rfl ?_
          refine g_iinc (pc' := 68) (v := nI (s + 1)) (lv' := [(4, .int (nI (s + 1))), (3, .int ((fmF n 0 0 (sX11_asides n s (nI s) σ)).1)), (2, .int (x + 1)), (5, .int ((fmF n 0 0 (sX11_asides n s (nI s) σ)).1)), (0, .ref (b + 159)), (1, .int (x1))]) dX11_families_65 rfl 5 rfl (nI_1 s) (by decide) rfl ?_
          refine g_goto (tgt := 7) dX11_families_68 (by decide) ?_
          rw [show fsF n (m + 1) s x y σ = fsF n m (s + 1) (x + 1) ((fyF n s σ).1) (fyF n s σ).2 by rw [fsF, if_pos (show (fyF n s σ).1 &&& (1 <<< (nI s &&& 31) - 1) = 0 from c2), if_neg (show ¬ bsF (fyF n s σ).1 ≤ bsF y from c4)]]
          refine g_sub [4, 5, 2, 1, 0] rfl ?_
          exact ih (s + 1) _ _ _ (by omega) (hc_tr (kq_fy hN (by omega)) hc) (now_tr (kq_fy hN (by omega)) hN)
set_option maxRecDepth 100000 in
set_option maxHeartbeats 4000000 in
theorem ev_X11_families {l : Launch} {b : Nat} {cy : Nat → ClassId} {D : va_G} {d : Nat}  {x1 : Int32} {n : Nat} {σ : Sg}  (hN : NowOk (σ.1 160) n) (hn : n ≤ 12) (hc : σ.1 160 0 = nI n) : Es l b cy D (d + 6) yX11_families cX11_families (Option.some Jvm.ClassFile.FieldType.int) 6 [.ref (b + 159), .int (x1)] σ (some (.int (fsR x1 (fsF n n 0 0 0 σ)))) ((fsF n n 0 0 0 σ).2) := by
  refine Ev.of (by decide) (Nat.le_of_ble_eq_true rfl) rfl ?_
  refine g_iconst (pc' := 1) (v := 0) dX11_families_0 rfl (by decide) ?_
  refine g_istore_n (pc' := 2) (j := 2) (lv' := [(2, .int (0)), (0, .ref (b + 159)), (1, .int (x1))]) dX11_families_1 rfl rfl (by decide) rfl ?_
  refine g_iconst (pc' := 3) (v := 0) dX11_families_2 rfl (by decide) ?_
  refine g_istore_n (pc' := 4) (j := 3) (lv' := [(3, .int (0)), (2, .int (0)), (0, .ref (b + 159)), (1, .int (x1))]) dX11_families_3 rfl rfl (by decide) rfl ?_
  refine g_iconst (pc' := 5) (v := 0) dX11_families_4 rfl (by decide) ?_
  refine g_istore (pc' := 7) (j := 4) (lv' := [(4, .int (0)), (3, .int (0)), (2, .int (0)), (0, .ref (b + 159)), (1, .int (x1))]) dX11_families_5 rfl (by decide) rfl ?_
  refine g_sub [3, 4, 2, 1, 0] rfl ?_
  exact lp_fs hn n 0 0 0 _ (by omega) hc hN
noncomputable def twsF (n : Nat) : Nat → Nat → Int32 → Sg → Int32 × Sg
  | 0, _, x, σ => (x, σ)
  | m + 1, s, x, σ => twsF n m (s + 1) (if rX11_isTwin n s (nI s) σ = true then x + 1 else x + 0) (sX11_isTwin n s (nI s) σ)
theorem kq_tws {n : Nat} : ∀ (m s : Nat) (x : Int32) (σ : Sg), s + m = n → NowOk (σ.1 160) n → Kq I10 L10 σ (twsF n m s x σ).2 := by
  intro m
  induction m with
  | zero => intro s x σ _ _; exact Kq.rfl
  | succ m ih =>
    intro s x σ hu hN
    have k := kq_tw (x1 := nI s) hN (show s < n by omega)
    rw [twsF]
    exact k.trans (ih _ _ _ (by omega) (now_tr k hN))
set_option maxRecDepth 100000 in
set_option maxHeartbeats 4000000 in
theorem lp_tws {l : Launch} {b : Nat} {cy : Nat → ClassId} {D : va_G} {d : Nat}   {n : Nat}   (hn : n ≤ 12) : ∀ (m : Nat) (s : Nat) (x : Int32) (σ : Sg), s + m = n → σ.1 160 0 = nI n → NowOk (σ.1 160) n → Gs l b cy D (d + 6) yX11_twins cX11_twins (Option.some Jvm.ClassFile.FieldType.int) 3 (some (.int (twsF n m s x σ).1)) (twsF n m s x σ).2 4 [(0, .ref (b + 159)), (1, .int (x)), (2, .int (nI s))] [] σ := by
  intro m
  induction m with
  | zero =>
    intro s x σ hu hc hN
    refine g_iload_n (pc' := 5) dX11_twins_4 rfl 2 rfl rfl ?_
    refine g_aload_n (pc' := 6) dX11_twins_5 rfl 0 rfl rfl ?_
    refine g_getR (pc' := 9) (a := 160) dX11_twins_6 rfl (PLk.lf fX11_7) o159 rfl ?_
    refine g_iconst (pc' := 10) (v := 0) dX11_twins_9 rfl (by decide) ?_
    refine g_iald (pc' := 11) (j := 0) dX11_twins_10 rfl o160 (by decide) (by decide) (by decide) ?_
    refine g_icmp_ge (pc' := 14) (tgt := 36) dX11_twins_11 rfl (by decide) (fun (c1 : (σ.1 160 0 : Int32) ≤ (nI s)) => ?_) (fun (c1 : ¬ (σ.1 160 0 : Int32) ≤ (nI s)) => ?_)
    · refine g_iload_n (pc' := 37) dX11_twins_36 rfl 1 rfl rfl ?_
      exact g_iret dX11_twins_37 rfl ⟨rfl, rfl⟩ rfl
    · exact absurd (by rw [hc]; exact (nI_leI (by omega) (by omega)).mpr (by omega)) c1
  | succ m ih =>
    intro s x σ hu hc hN
    refine g_iload_n (pc' := 5) dX11_twins_4 rfl 2 rfl rfl ?_
    refine g_aload_n (pc' := 6) dX11_twins_5 rfl 0 rfl rfl ?_
    refine g_getR (pc' := 9) (a := 160) dX11_twins_6 rfl (PLk.lf fX11_7) o159 rfl ?_
    refine g_iconst (pc' := 10) (v := 0) dX11_twins_9 rfl (by decide) ?_
    refine g_iald (pc' := 11) (j := 0) dX11_twins_10 rfl o160 (by decide) (by decide) (by decide) ?_
    refine g_icmp_ge (pc' := 14) (tgt := 36) dX11_twins_11 rfl (by decide) (fun (c1 : (σ.1 160 0 : Int32) ≤ (nI s)) => ?_) (fun (c1 : ¬ (σ.1 160 0 : Int32) ≤ (nI s)) => ?_)
    · exact absurd (nle (a := n) (c := s) c1 hc rfl (by omega) (by omega)) (by omega)
    · refine g_iload_n (pc' := 15) dX11_twins_14 rfl 1 rfl rfl ?_
      refine g_aload_n (pc' := 16) dX11_twins_15 rfl 0 rfl rfl ?_
      refine g_iload_n (pc' := 17) dX11_twins_16 rfl 2 rfl rfl ?_
      refine g_callr (pc' := 20) dX11_twins_17 rfl mX11_228 (ev_X11_isTwin (n := n) (s := s) (x1 := nI s) (σ := σ) hN hn rfl (by omega) (d := d)) o159 rfl (rm_ok (by omega) (by decide)) ⟨rfl, rfl⟩ ⟨Nat.zero_le _, Nat.zero_le _⟩ rfl rfl (Nat.le_of_ble_eq_true rfl) ?_
      refine g_ifb_eq (pc' := 23) (tgt := 27) dX11_twins_20 rfl (by decide) (fun (c2 : (rX11_isTwin n s (nI s) σ) = false) => ?_) (fun (c2 : (rX11_isTwin n s (nI s) σ) = true) => ?_)
      · refine g_iconst (pc' := 28) (v := 0) dX11_twins_27 rfl (by decide) ?_
        refine g_iadd (pc' := 29) dX11_twins_28 rfl ?_
        refine g_istore_n (pc' := 30) (j := 1) (lv' := [(1, .int (x + 0)), (0, .ref (b + 159)), (2, .int (nI s))]) dX11_twins_29 rfl rfl (by decide) rfl ?_
        refine g_iinc (pc' := 33) (v := nI (s + 1)) (lv' := [(2, .int (nI (s + 1))), (1, .int (x + 0)), (0, .ref (b + 159))]) dX11_twins_30 rfl 2 rfl (nI_1 s) (by decide) rfl ?_
        refine g_goto (tgt := 4) dX11_twins_33 (by decide) ?_
        rw [show twsF n (m + 1) s x σ = twsF n m (s + 1) (x + 0) (sX11_isTwin n s (nI s) σ) by rw [twsF, if_neg (bf c2)]]
        refine g_sub [2, 1, 0] rfl ?_
        exact ih (s + 1) _ _ (by omega) (hc_tr (kq_tw hN (by omega)) hc) (now_tr (kq_tw hN (by omega)) hN)
      · refine g_iconst (pc' := 24) (v := 1) dX11_twins_23 rfl (by decide) ?_
        refine g_goto (tgt := 28) dX11_twins_24 (by decide) ?_
        refine g_iadd (pc' := 29) dX11_twins_28 rfl ?_
        refine g_istore_n (pc' := 30) (j := 1) (lv' := [(1, .int (x + 1)), (0, .ref (b + 159)), (2, .int (nI s))]) dX11_twins_29 rfl rfl (by decide) rfl ?_
        refine g_iinc (pc' := 33) (v := nI (s + 1)) (lv' := [(2, .int (nI (s + 1))), (1, .int (x + 1)), (0, .ref (b + 159))]) dX11_twins_30 rfl 2 rfl (nI_1 s) (by decide) rfl ?_
        refine g_goto (tgt := 4) dX11_twins_33 (by decide) ?_
        rw [show twsF n (m + 1) s x σ = twsF n m (s + 1) (x + 1) (sX11_isTwin n s (nI s) σ) by rw [twsF, if_pos c2]]
        refine g_sub [2, 1, 0] rfl ?_
        exact ih (s + 1) _ _ (by omega) (hc_tr (kq_tw hN (by omega)) hc) (now_tr (kq_tw hN (by omega)) hN)
set_option maxRecDepth 100000 in
set_option maxHeartbeats 4000000 in
theorem ev_X11_twins {l : Launch} {b : Nat} {cy : Nat → ClassId} {D : va_G} {d : Nat}   {n : Nat} {σ : Sg}  (hN : NowOk (σ.1 160) n) (hn : n ≤ 12) (hc : σ.1 160 0 = nI n) : Es l b cy D (d + 6) yX11_twins cX11_twins (Option.some Jvm.ClassFile.FieldType.int) 3 [.ref (b + 159)] σ (some (.int ((twsF n n 0 0 σ).1))) ((twsF n n 0 0 σ).2) := by
  refine Ev.of (by decide) (Nat.le_of_ble_eq_true rfl) rfl ?_
  refine g_iconst (pc' := 1) (v := 0) dX11_twins_0 rfl (by decide) ?_
  refine g_istore_n (pc' := 2) (j := 1) (lv' := [(1, .int (0)), (0, .ref (b + 159))]) dX11_twins_1 rfl rfl (by decide) rfl ?_
  refine g_iconst (pc' := 3) (v := 0) dX11_twins_2 rfl (by decide) ?_
  refine g_istore_n (pc' := 4) (j := 2) (lv' := [(2, .int (0)), (1, .int (0)), (0, .ref (b + 159))]) dX11_twins_3 rfl rfl (by decide) rfl ?_
  refine g_sub [2, 1, 0] rfl ?_
  exact lp_tws hn n 0 0 _ (by omega) hc hN
end
