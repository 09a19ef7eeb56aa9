/-- what stays as it is: ints but for I, longs but for L -/
def Kq (I L : Nat → Nat → Bool) (σ τ : Sg) : Prop := (∀ a j, I a j = false → τ.1 a j = σ.1 a j) ∧ ∀ a j, L a j = false → τ.2 a j = σ.2 a j
theorem Kq.rfl {I L : Nat → Nat → Bool} {σ : Sg} : Kq I L σ σ := ⟨fun _ _ _ => Eq.refl _, fun _ _ _ => Eq.refl _⟩
theorem Kq.trans {I L : Nat → Nat → Bool} {σ τ ρ : Sg} (h : Kq I L σ τ) (k : Kq I L τ ρ) : Kq I L σ ρ := ⟨fun a j q => (k.1 a j q).trans (h.1 a j q), fun a j q => (k.2 a j q).trans (h.2 a j q)⟩
theorem Kq.i {I L : Nat → Nat → Bool} {σ τ : Sg} {a j : Nat} {v : Int32} (q : I a j = true) (h : Kq I L σ τ) : Kq I L σ (u2 τ.1 a j v, τ.2) := by
  refine ⟨fun a' j' q' => ?_, h.2⟩
  show u2 τ.1 a j v a' j' = _
  unfold u2
  split
  · next z => rw [z.1, z.2, q] at q'; cases q'
  · exact h.1 a' j' q'
theorem Kq.l {I L : Nat → Nat → Bool} {σ τ : Sg} {a j : Nat} {v : Int64} (q : L a j = true) (h : Kq I L σ τ) : Kq I L σ (τ.1, u2 τ.2 a j v) := by
  refine ⟨h.1, fun a' j' q' => ?_⟩
  show u2 τ.2 a j v a' j' = _
  unfold u2
  split
  · next z => rw [z.1, z.2, q] at q'; cases q'
  · exact h.2 a' j' q'
theorem Kq.mono {I L I' L' : Nat → Nat → Bool} {σ τ : Sg} (h : Kq I L σ τ) (hi : ∀ a j, I' a j = false → I a j = false) (hl : ∀ a j, L' a j = false → L a j = false) : Kq I' L' σ τ := ⟨fun a j q => h.1 a j (hi a j q), fun a j q => h.2 a j (hl a j q)⟩
/-- what turns changes behind its first part -/
def I7 (a j : Nat) : Bool := a == 166 || a == 168 || (a == 159 && j == 20)
def L7 (a j : Nat) : Bool := a == 159 && (j == 21 || j == 22)
/-- what knows changes -/
def I8 (a j : Nat) : Bool := a == 166 || a == 167 || a == 168 || (a == 159 && (j == 15 || j == 19 || j == 20 || j == 25))
def L8 (a j : Nat) : Bool := a == 159 && (j == 11 || j == 12 || j == 13 || j == 14 || j == 16 || j == 17 || j == 21 || j == 22)
theorem b167 (j : Nat) : I7 166 j = true := Eq.refl _
theorem c167 (j : Nat) : I8 166 j = true := Eq.refl _
theorem c168 (j : Nat) : I8 167 j = true := Eq.refl _
theorem m78i (a j : Nat) (h : I8 a j = false) : I7 a j = false := by
  unfold I8 at h; unfold I7
  simp only [Bool.or_eq_false_iff, Bool.and_eq_false_iff, beq_eq_false_iff_ne] at h ⊢
  omega
theorem m78l (a j : Nat) (h : L8 a j = false) : L7 a j = false := by
  unfold L8 at h; unfold L7
  simp only [Bool.or_eq_false_iff, Bool.and_eq_false_iff, beq_eq_false_iff_ne] at h ⊢
  omega
theorem kq_tk {x y z w : Int64} {σ : Sg} : Kq I8 L8 σ (sX11_takes x y z w σ) := by
  unfold sX11_takes
  exact (((Kq.l (τ := σ) (a := 159) (j := 11) (Eq.refl _) Kq.rfl).trans (Kq.l (a := 159) (j := 12) (Eq.refl _) Kq.rfl)).trans (Kq.l (a := 159) (j := 13) (Eq.refl _) Kq.rfl)).trans (Kq.l (a := 159) (j := 14) (Eq.refl _) Kq.rfl)
theorem some_absurd {α : Type} {x : α} {p : Prop} (h : none = some x) : p := nomatch h
theorem kq_some {σ τ ρ : Sg} (k : Kq I8 L8 σ ρ) (h : some ρ = some τ) : Kq I8 L8 σ τ := Option.some.inj h ▸ k
theorem kq_ca {r : Int64} {τ : Sg} : ∀ (m : Nat) (u : Bool) (σ : Sg), caF r m u σ = some τ → Kq I8 L8 σ τ := by
  intro m
  induction m with
  | zero => intro u σ h; exact absurd h (by rw [caF]; exact fun z => nomatch z)
  | succ m ih =>
    intro u σ h
    have e1 : ∀ (q : Prop) [Decidable q] (ρ : Sg) (u : Bool), Kq I8 L8 σ ρ → (if q then none else caF r m u ρ) = some τ → Kq I8 L8 σ τ := by
      intro q _ ρ u k h
      split at h
      · exact some_absurd h
      · exact k.trans (ih _ _ h)
    cases u <;> (rw [caF] at h; split at h <;> split at h)
    all_goals first | exact kq_some Kq.rfl h | exact kq_some kq_tk h | exact e1 _ _ _ kq_tk h
theorem kq_caT {σ : Sg} (h : CaOk σ) : Kq I8 L8 σ (caT σ) := kq_ca _ _ _ (getD_some h)
theorem kq_spE {f : Int32} {n : Int64} {σ τ : Sg} : Kq I8 L8 τ (spE f n σ τ) := by
  unfold spE
  exact Kq.i (τ := (_, τ.2)) (Eq.refl _) (Kq.i (τ := (_, τ.2)) (c168 _) (Kq.i (τ := τ) (c167 _) Kq.rfl))
theorem kq_splS {σ : Sg} : Kq I8 L8 σ (splS σ) := by
  unfold splS spR spL
  split
  · exact kq_tk.trans kq_spE
  · exact kq_tk.trans kq_spE
theorem kq_spl {τ : Sg} : ∀ (m : Nat) (σ : Sg), splF m σ = some τ → Kq I8 L8 σ τ := by
  intro m
  induction m with
  | zero => intro σ h; exact absurd h (by rw [splF]; exact fun z => nomatch z)
  | succ m ih =>
    intro σ h
    rw [splF] at h
    split at h
    · exact Option.some.inj h ▸ Kq.rfl
    · split at h
      · exact kq_splS.trans (ih _ h)
      · exact absurd h (fun z => nomatch z)
theorem kq_splT {σ : Sg} (h : SplOk σ) : Kq I8 L8 σ (splT σ) := (Kq.i (τ := σ) (Eq.refl _) Kq.rfl).trans (kq_spl _ _ (getD_some h))
theorem kq_tu4 {t n : Nat} : ∀ (m k : Nat) (σ : Sg), Kq I7 L7 σ (tu4 t n m k σ)
  | 0, _, _ => Kq.rfl
  | m + 1, k, σ => (Kq.i (τ := σ) (b167 _) Kq.rfl).trans (kq_tu4 m (k + 1) _)
theorem kq_tu2 {n : Nat} : ∀ (m k t : Nat) (σ : Sg), Kq I7 L7 σ (tu2 n m k t σ).2 := by
  intro m
  induction m with
  | zero => intro k t σ; exact Kq.rfl
  | succ m ih =>
    intro k t σ
    rw [tu2]
    split
    · exact (Kq.i (τ := σ) (Eq.refl _) Kq.rfl).trans (ih _ _ _)
    · exact Kq.rfl
theorem kq_tu1 {f : Nat} : ∀ (m k : Nat) (σ : Sg), Kq I7 L7 σ (tu1 f m k σ)
  | 0, _, _ => Kq.rfl
  | m + 1, k, σ => ((Kq.i (τ := σ) (a := 168) (j := k) (Eq.refl _) Kq.rfl).trans (Kq.l (Eq.refl _) Kq.rfl)).trans (kq_tu1 m (k + 1) _)
theorem kq_tuE {ah : Int64} {t n : Nat} {σ : Sg} : Kq I7 L7 σ (tuE ah t n σ) := (Kq.l (τ := σ) (Eq.refl _) Kq.rfl).trans (kq_tu4 _ _ _)
theorem kq_tuF {ah : Int64} {n : Nat} {σ : Sg} : Kq I7 L7 σ (tuF ah n σ) := ((Kq.i (τ := σ) (a := 159) (j := 20) (v := 0) (Eq.refl _) Kq.rfl).trans (kq_tu2 32 0 0 _)).trans kq_tuE
theorem kq_sTu7 {n : Nat} {σ : Sg} : Kq I7 L7 (tuB (tuA n σ).2.2 (tuA n σ).2.1) (sTu n σ) := (kq_tu1 _ _ _).trans kq_tuF
theorem kq_tuA {n : Nat} {σ : Sg} : Kq I8 L8 σ (tuA n σ).2.2 := by
  unfold tuA
  split
  · split
    · exact Kq.i (τ := (_, σ.2)) (Eq.refl _) (Kq.i (τ := (_, σ.2)) (c168 _) (Kq.i (τ := (_, σ.2)) (c167 _) (Kq.i (τ := σ) (c167 _) Kq.rfl)))
    · exact Kq.i (τ := σ) (c167 _) Kq.rfl
  · split
    · exact Kq.i (τ := (_, σ.2)) (Eq.refl _) (Kq.i (τ := (_, σ.2)) (c168 _) (Kq.i (τ := σ) (c167 _) Kq.rfl))
    · exact Kq.rfl
theorem kq_tuB {f : Nat} {σ : Sg} : Kq I8 L8 σ (tuB σ f) := (Kq.i (τ := σ) (a := 159) (j := 19) (Eq.refl _) Kq.rfl).trans (Kq.l (Eq.refl _) Kq.rfl)
theorem kq_sTu {n : Nat} {σ : Sg} : Kq I8 L8 σ (sTu n σ) := (kq_tuA.trans kq_tuB).trans (kq_sTu7.mono m78i m78l)
theorem sTu_19 {n : Nat} {σ : Sg} (h : TuOk n σ) : (sTu n σ).1 159 19 = nI (tuN n σ) := by
  rw [kq_sTu7.1 159 19 (Eq.refl _)]
  unfold tuB
  dsimp only
  rw [u2_eq]
  exact h.1
def k0 (σ : Sg) : Sg := (u2 (u2 σ.1 159 19 0) 159 20 0, u2 (u2 (u2 σ.2 159 16 (σ.2 159 11 + σ.2 159 14)) 159 17 0) 159 21 0)
def knK (σ : Sg) : Int32 := if rX11_isOne σ = true then 0 else (if rX11_in (σ.2 159 16) (-1) 1 σ = true then 1 else (if rX11_in (σ.2 159 16) (-2) 2 σ = true then 2 else 3))
def kA (σ : Sg) : Sg := (u2 σ.1 159 15 (knK σ), σ.2)
def kB (σ : Sg) : Sg := (u2 σ.1 159 25 (if σ.2 159 13 < 0 then -1 else 1), σ.2)
def kC (σ : Sg) : Sg := if σ.1 159 15 ≤ 1 then σ else (if σ.2 159 16 < 0 then sX11_changes σ else σ)
def dvF (x y : Int64) (σ : Sg) : Int64 := gcdF ((rX11_far y σ).toInt.natAbs + 1) (rX11_far x σ) (rX11_far y σ)
def knN (σ : Sg) : Int64 := dvF (dvF (σ.2 159 11 - 1) (σ.2 159 12) σ) (σ.2 159 13) σ
def kD (σ : Sg) : Sg := if σ.1 159 15 = 2 then (σ.1, u2 σ.2 159 17 (if 0 < σ.2 159 12 then knN σ else (if σ.2 159 12 = 0 then (if σ.2 159 13 < 0 then knN σ else 0 - knN σ) else 0 - knN σ))) else σ
def k3 (σ : Sg) : Sg := (σ.1, u2 σ.2 159 16 (rX11_far (σ.2 159 16) σ))
noncomputable def kn3 (σ : Sg) : Nat := ((splT (caT (k3 σ))).1 159 19).toNatClampNeg
noncomputable def kE (σ : Sg) : Sg := if σ.1 159 15 = 3 then ((sTu (kn3 σ) (splT (caT (k3 σ)))).1, u2 (sTu (kn3 σ) (splT (caT (k3 σ)))).2 159 16 (σ.2 159 16)) else σ
def KE (σ : Sg) : Prop := σ.1 159 15 = 3 → CaOk (k3 σ) ∧ SplOk (caT (k3 σ)) ∧ (splT (caT (k3 σ))).1 159 19 = nI (kn3 σ) ∧ 2 ≤ kn3 σ ∧ kn3 σ ≤ 62 ∧ TuOk (kn3 σ) (splT (caT (k3 σ)))
def kP (σ : Sg) : Sg := kD (kC (kB (kA (k0 σ))))
def KnOk (σ : Sg) : Prop := KE (kP σ)
/-- a value, and nothing of how it is made -/
noncomputable def hd {α : Type} (x : α) : {y : α // y = x} := Classical.choice ⟨⟨x, rfl⟩⟩
noncomputable def sKn (σ : Sg) : Sg := (hd (kE (kP σ))).1
theorem sKn_e (σ : Sg) : sKn σ = kE (kP σ) := (hd (kE (kP σ))).2
set_option maxRecDepth 100000 in
set_option maxHeartbeats 4000000 in
theorem kn_0 {l : Launch} {b : Nat} {cy : Nat → ClassId} {D : va_G} {d : Nat} {σ τ : Sg}  (k : Gs l b cy D (d + 3) yX11_knows cX11_knows (Option.none : Option Jvm.ClassFile.FieldType) 3 none τ 33 [(0, .ref (b + 159))] [] (k0 σ)) : Gs l b cy D (d + 3) yX11_knows cX11_knows (Option.none : Option Jvm.ClassFile.FieldType) 3 none τ 0 [(0, .ref (b + 159))] [] σ := by
  refine g_aload_n (pc' := 1) dX11_knows_0 rfl 0 rfl rfl ?_
  refine g_aload_n (pc' := 2) dX11_knows_1 rfl 0 rfl rfl ?_
  refine g_getL (pc' := 5) dX11_knows_2 rfl (PLk.lf fX11_57) o159 rfl ?_
  refine g_aload_n (pc' := 6) dX11_knows_5 rfl 0 rfl rfl ?_
  refine g_getL (pc' := 9) dX11_knows_6 rfl (PLk.lf fX11_67) o159 rfl ?_
  refine g_ladd (pc' := 10) dX11_knows_9 rfl ?_
  refine g_putL (pc' := 13) dX11_knows_10 rfl fX11_126 o159 rfl ?_
  refine g_aload_n (pc' := 14) dX11_knows_13 rfl 0 rfl rfl ?_
  refine g_lconst (pc' := 15) (v := 0) dX11_knows_14 rfl (by decide) ?_
  refine g_putL (pc' := 18) dX11_knows_15 rfl fX11_160 o159 rfl ?_
  refine g_aload_n (pc' := 19) dX11_knows_18 rfl 0 rfl rfl ?_
  refine g_iconst (pc' := 20) (v := 0) dX11_knows_19 rfl (by decide) ?_
  refine g_putI (pc' := 23) dX11_knows_20 rfl fX11_140 o159 rfl ?_
  refine g_aload_n (pc' := 24) dX11_knows_23 rfl 0 rfl rfl ?_
  refine g_iconst (pc' := 25) (v := 0) dX11_knows_24 rfl (by decide) ?_
  refine g_putI (pc' := 28) dX11_knows_25 rfl fX11_146 o159 rfl ?_
  refine g_aload_n (pc' := 29) dX11_knows_28 rfl 0 rfl rfl ?_
  refine g_lconst (pc' := 30) (v := 0) dX11_knows_29 rfl (by decide) ?_
  refine g_putL (pc' := 33) dX11_knows_30 rfl fX11_143 o159 rfl ?_
  refine g_sub [0] rfl ?_
  exact k
set_option maxRecDepth 100000 in
set_option maxHeartbeats 4000000 in
theorem kn_A {l : Launch} {b : Nat} {cy : Nat → ClassId} {D : va_G} {d : Nat} {σ τ : Sg}  (k : Gs l b cy D (d + 3) yX11_knows cX11_knows (Option.none : Option Jvm.ClassFile.FieldType) 3 none τ 87 [(0, .ref (b + 159))] [] (kA σ)) : Gs l b cy D (d + 3) yX11_knows cX11_knows (Option.none : Option Jvm.ClassFile.FieldType) 3 none τ 33 [(0, .ref (b + 159))] [] σ := by
  refine g_aload_n (pc' := 34) dX11_knows_33 rfl 0 rfl rfl ?_
  refine g_aload_n (pc' := 35) dX11_knows_34 rfl 0 rfl rfl ?_
  refine g_callr (pc' := 38) dX11_knows_35 rfl mX11_163 (ev_X11_isOne  (σ := σ)  (d := d + 2)) o159 rfl (rm_ok (by omega) (by decide)) ⟨rfl, rfl⟩ ⟨Nat.zero_le _, Nat.zero_le _⟩ rfl rfl (Nat.le_of_ble_eq_true rfl) ?_
  refine g_ifb_eq (pc' := 41) (tgt := 45) dX11_knows_38 rfl (by decide) (fun (c1 : (rX11_isOne σ) = false) => ?_) (fun (c1 : (rX11_isOne σ) = true) => ?_)
  · refine g_aload_n (pc' := 46) dX11_knows_45 rfl 0 rfl rfl ?_
    refine g_getL (pc' := 49) dX11_knows_46 rfl (PLk.lf fX11_126) o159 rfl ?_
    refine g_ldc2 (pc' := 52) dX11_knows_49 rfl kX11_81 ?_
    refine g_lconst (pc' := 53) (v := 1) dX11_knows_52 rfl (by decide) ?_
    refine g_callsr (pc' := 56) dX11_knows_53 rfl mX11_53 (ev_X11_in (x1 := σ.2 159 16) (x2 := -1) (x3 := 1) (σ := σ)  (d := d + 2)) (rm_ok (by omega) (by decide)) ⟨rfl, rfl⟩ ⟨Nat.zero_le _, Nat.zero_le _⟩ rfl rfl (Nat.le_of_ble_eq_true rfl) ?_
    refine g_ifb_eq (pc' := 59) (tgt := 63) dX11_knows_56 rfl (by decide) (fun (c2 : (rX11_in (σ.2 159 16) (-1) 1 σ) = false) => ?_) (fun (c2 : (rX11_in (σ.2 159 16) (-1) 1 σ) = true) => ?_)
    · refine g_aload_n (pc' := 64) dX11_knows_63 rfl 0 rfl rfl ?_
      refine g_getL (pc' := 67) dX11_knows_64 rfl (PLk.lf fX11_126) o159 rfl ?_
      refine g_ldc2 (pc' := 70) dX11_knows_67 rfl kX11_166 ?_
      refine g_ldc2 (pc' := 73) dX11_knows_70 rfl kX11_134 ?_
      refine g_callsr (pc' := 76) dX11_knows_73 rfl mX11_53 (ev_X11_in (x1 := σ.2 159 16) (x2 := -2) (x3 := 2) (σ := σ)  (d := d + 2)) (rm_ok (by omega) (by decide)) ⟨rfl, rfl⟩ ⟨Nat.zero_le _, Nat.zero_le _⟩ rfl rfl (Nat.le_of_ble_eq_true rfl) ?_
      refine g_ifb_eq (pc' := 79) (tgt := 83) dX11_knows_76 rfl (by decide) (fun (c3 : (rX11_in (σ.2 159 16) (-2) 2 σ) = false) => ?_) (fun (c3 : (rX11_in (σ.2 159 16) (-2) 2 σ) = true) => ?_)
      · refine g_iconst (pc' := 84) (v := 3) dX11_knows_83 rfl (by decide) ?_
        refine g_putI (pc' := 87) dX11_knows_84 rfl fX11_168 o159 rfl ?_
        rw [show kA σ = (u2 σ.1 159 15 3, σ.2) by unfold kA knK; rw [if_neg (bf c1), if_neg (bf c2), if_neg (bf c3)]] at k
        refine g_sub [0] rfl ?_
        exact k
      · refine g_iconst (pc' := 80) (v := 2) dX11_knows_79 rfl (by decide) ?_
        refine g_goto (tgt := 84) dX11_knows_80 (by decide) ?_
        refine g_putI (pc' := 87) dX11_knows_84 rfl fX11_168 o159 rfl ?_
        rw [show kA σ = (u2 σ.1 159 15 2, σ.2) by unfold kA knK; rw [if_neg (bf c1), if_neg (bf c2), if_pos c3]] at k
        refine g_sub [0] rfl ?_
        exact k
    · refine g_iconst (pc' := 60) (v := 1) dX11_knows_59 rfl (by decide) ?_
      refine g_goto (tgt := 84) dX11_knows_60 (by decide) ?_
      refine g_putI (pc' := 87) dX11_knows_84 rfl fX11_168 o159 rfl ?_
      rw [show kA σ = (u2 σ.1 159 15 1, σ.2) by unfold kA knK; rw [if_neg (bf c1), if_pos c2]] at k
      refine g_sub [0] rfl ?_
      exact k
  · refine g_iconst (pc' := 42) (v := 0) dX11_knows_41 rfl (by decide) ?_
    refine g_goto (tgt := 84) dX11_knows_42 (by decide) ?_
    refine g_putI (pc' := 87) dX11_knows_84 rfl fX11_168 o159 rfl ?_
    rw [show kA σ = (u2 σ.1 159 15 0, σ.2) by unfold kA knK; rw [if_pos c1]] at k
    refine g_sub [0] rfl ?_
    exact k
set_option maxRecDepth 100000 in
set_option maxHeartbeats 4000000 in
theorem kn_B {l : Launch} {b : Nat} {cy : Nat → ClassId} {D : va_G} {d : Nat} {σ τ : Sg}  (k : Gs l b cy D (d + 3) yX11_knows cX11_knows (Option.none : Option Jvm.ClassFile.FieldType) 3 none τ 105 [(0, .ref (b + 159))] [] (kB σ)) : Gs l b cy D (d + 3) yX11_knows cX11_knows (Option.none : Option Jvm.ClassFile.FieldType) 3 none τ 87 [(0, .ref (b + 159))] [] σ := by
  refine g_aload_n (pc' := 88) dX11_knows_87 rfl 0 rfl rfl ?_
  refine g_aload_n (pc' := 89) dX11_knows_88 rfl 0 rfl rfl ?_
  refine g_getL (pc' := 92) dX11_knows_89 rfl (PLk.lf fX11_64) o159 rfl ?_
  refine g_lconst (pc' := 93) (v := 0) dX11_knows_92 rfl (by decide) ?_
  refine g_lif_ge (pc' := 97) (tgt := 101) dX11_knows_93 dX11_knows_94 rfl (by decide) (fun (c1 : ¬ (σ.2 159 13 : Int64) < 0) => ?_) (fun (c1 : (σ.2 159 13 : Int64) < 0) => ?_)
  · refine g_iconst (pc' := 102) (v := 1) dX11_knows_101 rfl (by decide) ?_
    refine g_putI (pc' := 105) dX11_knows_102 rfl fX11_171 o159 rfl ?_
    rw [show kB σ = (u2 σ.1 159 25 1, σ.2) by unfold kB; rw [if_neg c1]] at k
    refine g_sub [0] rfl ?_
    exact k
  · refine g_iconst (pc' := 98) (v := -1) dX11_knows_97 rfl (by decide) ?_
    refine g_goto (tgt := 102) dX11_knows_98 (by decide) ?_
    refine g_putI (pc' := 105) dX11_knows_102 rfl fX11_171 o159 rfl ?_
    rw [show kB σ = (u2 σ.1 159 25 (-1), σ.2) by unfold kB; rw [if_pos c1]] at k
    refine g_sub [0] rfl ?_
    exact k
set_option maxRecDepth 100000 in
set_option maxHeartbeats 4000000 in
theorem kn_C {l : Launch} {b : Nat} {cy : Nat → ClassId} {D : va_G} {d : Nat} {σ τ : Sg}  (k : Gs l b cy D (d + 3) yX11_knows cX11_knows (Option.none : Option Jvm.ClassFile.FieldType) 3 none τ 126 [(0, .ref (b + 159))] [] (kC σ)) : Gs l b cy D (d + 3) yX11_knows cX11_knows (Option.none : Option Jvm.ClassFile.FieldType) 3 none τ 105 [(0, .ref (b + 159))] [] σ := by
  refine g_aload_n (pc' := 106) dX11_knows_105 rfl 0 rfl rfl ?_
  refine g_getI (pc' := 109) dX11_knows_106 rfl (PLk.lf fX11_168) o159 rfl ?_
  refine g_iconst (pc' := 110) (v := 1) dX11_knows_109 rfl (by decide) ?_
  refine g_icmp_le (pc' := 113) (tgt := 126) dX11_knows_110 rfl (by decide) (fun (c1 : (σ.1 159 15 : Int32) ≤ 1) => ?_) (fun (c1 : ¬ (σ.1 159 15 : Int32) ≤ 1) => ?_)
  · rw [show kC σ = σ by unfold kC; rw [if_pos c1]] at k
    refine g_sub [0] rfl ?_
    exact k
  · refine g_aload_n (pc' := 114) dX11_knows_113 rfl 0 rfl rfl ?_
    refine g_getL (pc' := 117) dX11_knows_114 rfl (PLk.lf fX11_126) o159 rfl ?_
    refine g_lconst (pc' := 118) (v := 0) dX11_knows_117 rfl (by decide) ?_
    refine g_lif_ge (pc' := 122) (tgt := 126) dX11_knows_118 dX11_knows_119 rfl (by decide) (fun (c2 : ¬ (σ.2 159 16 : Int64) < 0) => ?_) (fun (c2 : (σ.2 159 16 : Int64) < 0) => ?_)
    · rw [show kC σ = σ by unfold kC; rw [if_neg c1, if_neg c2]] at k
      refine g_sub [0] rfl ?_
      exact k
    · refine g_aload_n (pc' := 123) dX11_knows_122 rfl 0 rfl rfl ?_
      refine g_callv (pc' := 126) dX11_knows_123 rfl mX11_174 (ev_X11_changes  (σ := σ)  (d := d + 1)) o159 rfl (rm_ok (by omega) (by decide)) ⟨rfl, rfl⟩ ⟨Nat.zero_le _, Nat.zero_le _⟩ rfl rfl (Nat.le_of_ble_eq_true rfl) ?_
      rw [show kC σ = sX11_changes σ by unfold kC; rw [if_neg c1, if_pos c2]] at k
      refine g_sub [0] rfl ?_
      exact k
set_option maxRecDepth 100000 in
set_option maxHeartbeats 4000000 in
theorem kn_D {l : Launch} {b : Nat} {cy : Nat → ClassId} {D : va_G} {d : Nat} {σ τ : Sg}  (k : Gs l b cy D (d + 3) yX11_knows cX11_knows (Option.none : Option Jvm.ClassFile.FieldType) 3 none τ 193 [(0, .ref (b + 159))] [] (kD σ)) : Gs l b cy D (d + 3) yX11_knows cX11_knows (Option.none : Option Jvm.ClassFile.FieldType) 3 none τ 126 [(0, .ref (b + 159))] [] σ := by
  refine g_aload_n (pc' := 127) dX11_knows_126 rfl 0 rfl rfl ?_
  refine g_getI (pc' := 130) dX11_knows_127 rfl (PLk.lf fX11_168) o159 rfl ?_
  refine g_iconst (pc' := 131) (v := 2) dX11_knows_130 rfl (by decide) ?_
  refine g_icmp_ne (pc' := 134) (tgt := 193) dX11_knows_131 rfl (by decide) (fun (c1 : ¬ (σ.1 159 15 : Int32) = 2) => ?_) (fun (c1 : (σ.1 159 15 : Int32) = 2) => ?_)
  · rw [show kD σ = σ by unfold kD knN dvF; rw [if_neg c1]] at k
    refine g_sub [0] rfl ?_
    exact k
  · refine g_aload_n (pc' := 135) dX11_knows_134 rfl 0 rfl rfl ?_
    refine g_getL (pc' := 138) dX11_knows_135 rfl (PLk.lf fX11_57) o159 rfl ?_
    refine g_lconst (pc' := 139) (v := 1) dX11_knows_138 rfl (by decide) ?_
    refine g_lsub (pc' := 140) dX11_knows_139 rfl ?_
    refine g_aload_n (pc' := 141) dX11_knows_140 rfl 0 rfl rfl ?_
    refine g_getL (pc' := 144) dX11_knows_141 rfl (PLk.lf fX11_61) o159 rfl ?_
    refine g_callsr (pc' := 147) dX11_knows_144 rfl mX11_177 (ev_X11_divisor (x1 := (σ.2 159 11) - 1) (x2 := σ.2 159 12) (σ := σ)  (d := d + 1)) (rm_ok (by omega) (by decide)) ⟨rfl, rfl⟩ ⟨Nat.zero_le _, Nat.zero_le _⟩ rfl rfl (Nat.le_of_ble_eq_true rfl) ?_
    refine g_aload_n (pc' := 148) dX11_knows_147 rfl 0 rfl rfl ?_
    refine g_getL (pc' := 151) dX11_knows_148 rfl (PLk.lf fX11_64) o159 rfl ?_
    refine g_callsr (pc' := 154) dX11_knows_151 rfl mX11_177 (ev_X11_divisor (x1 := gcdF ((rX11_far (σ.2 159 12) σ).toInt.natAbs + 1) (rX11_far ((σ.2 159 11) - 1) σ) (rX11_far (σ.2 159 12) σ)) (x2 := σ.2 159 13) (σ := σ)  (d := d + 1)) (rm_ok (by omega) (by decide)) ⟨rfl, rfl⟩ ⟨Nat.zero_le _, Nat.zero_le _⟩ rfl rfl (Nat.le_of_ble_eq_true rfl) ?_
    refine g_lstore_n (pc' := 155) (j := 1) (lv' := [(1, .long (gcdF ((rX11_far (σ.2 159 13) σ).toInt.natAbs + 1) (rX11_far (gcdF ((rX11_far (σ.2 159 12) σ).toInt.natAbs + 1) (rX11_far ((σ.2 159 11) - 1) σ) (rX11_far (σ.2 159 12) σ)) σ) (rX11_far (σ.2 159 13) σ))), (0, .ref (b + 159))]) dX11_knows_154 rfl rfl (by decide) rfl ?_
    refine g_aload_n (pc' := 156) dX11_knows_155 rfl 1 rfl rfl ?_
    refine g_aload_n (pc' := 157) dX11_knows_156 rfl 1 rfl rfl ?_
    refine g_getL (pc' := 160) dX11_knows_157 rfl (PLk.lf fX11_61) o159 rfl ?_
    refine g_lconst (pc' := 161) (v := 0) dX11_knows_160 rfl (by decide) ?_
    refine g_lif_gt (pc' := 165) (tgt := 183) dX11_knows_161 dX11_knows_162 rfl (by decide) (fun (c2 : (0 : Int64) < (σ.2 159 12)) => ?_) (fun (c2 : ¬ (0 : Int64) < (σ.2 159 12)) => ?_)
    · refine g_lload_n (pc' := 184) dX11_knows_183 rfl 0 rfl rfl ?_
      refine g_goto (tgt := 190) dX11_knows_184 (by decide) ?_
      refine g_putL (pc' := 193) dX11_knows_190 rfl fX11_160 o159 rfl ?_
      rw [show kD σ = (σ.1, u2 σ.2 159 17 (gcdF ((rX11_far (σ.2 159 13) σ).toInt.natAbs + 1) (rX11_far (gcdF ((rX11_far (σ.2 159 12) σ).toInt.natAbs + 1) (rX11_far ((σ.2 159 11) - 1) σ) (rX11_far (σ.2 159 12) σ)) σ) (rX11_far (σ.2 159 13) σ))) by unfold kD knN dvF; rw [if_pos c1, if_pos c2]] at k
      refine g_sub [1] rfl ?_
      exact k
    · refine g_aload_n (pc' := 166) dX11_knows_165 rfl 1 rfl rfl ?_
      refine g_getL (pc' := 169) dX11_knows_166 rfl (PLk.lf fX11_61) o159 rfl ?_
      refine g_lconst (pc' := 170) (v := 0) dX11_knows_169 rfl (by decide) ?_
      refine g_lif_ne (pc' := 174) (tgt := 187) dX11_knows_170 dX11_knows_171 rfl (by decide) (fun (c3 : ¬ (σ.2 159 12 : Int64) = 0) => ?_) (fun (c3 : (σ.2 159 12 : Int64) = 0) => ?_)
      · refine g_lconst (pc' := 188) (v := 0) dX11_knows_187 rfl (by decide) ?_
        refine g_lload_n (pc' := 189) dX11_knows_188 rfl 0 rfl rfl ?_
        refine g_lsub (pc' := 190) dX11_knows_189 rfl ?_
        refine g_putL (pc' := 193) dX11_knows_190 rfl fX11_160 o159 rfl ?_
        rw [show kD σ = (σ.1, u2 σ.2 159 17 (0 - (gcdF ((rX11_far (σ.2 159 13) σ).toInt.natAbs + 1) (rX11_far (gcdF ((rX11_far (σ.2 159 12) σ).toInt.natAbs + 1) (rX11_far ((σ.2 159 11) - 1) σ) (rX11_far (σ.2 159 12) σ)) σ) (rX11_far (σ.2 159 13) σ)))) by unfold kD knN dvF; rw [if_pos c1, if_neg c2, if_neg c3]] at k
        refine g_sub [1] rfl ?_
        exact k
      · refine g_aload_n (pc' := 175) dX11_knows_174 rfl 1 rfl rfl ?_
        refine g_getL (pc' := 178) dX11_knows_175 rfl (PLk.lf fX11_64) o159 rfl ?_
        refine g_lconst (pc' := 179) (v := 0) dX11_knows_178 rfl (by decide) ?_
        refine g_lif_ge (pc' := 183) (tgt := 187) dX11_knows_179 dX11_knows_180 rfl (by decide) (fun (c4 : ¬ (σ.2 159 13 : Int64) < 0) => ?_) (fun (c4 : (σ.2 159 13 : Int64) < 0) => ?_)
        · refine g_lconst (pc' := 188) (v := 0) dX11_knows_187 rfl (by decide) ?_
          refine g_lload_n (pc' := 189) dX11_knows_188 rfl 0 rfl rfl ?_
          refine g_lsub (pc' := 190) dX11_knows_189 rfl ?_
          refine g_putL (pc' := 193) dX11_knows_190 rfl fX11_160 o159 rfl ?_
          rw [show kD σ = (σ.1, u2 σ.2 159 17 (0 - (gcdF ((rX11_far (σ.2 159 13) σ).toInt.natAbs + 1) (rX11_far (gcdF ((rX11_far (σ.2 159 12) σ).toInt.natAbs + 1) (rX11_far ((σ.2 159 11) - 1) σ) (rX11_far (σ.2 159 12) σ)) σ) (rX11_far (σ.2 159 13) σ)))) by unfold kD knN dvF; rw [if_pos c1, if_neg c2, if_pos c3, if_neg c4]] at k
          refine g_sub [1] rfl ?_
          exact k
        · refine g_lload_n (pc' := 184) dX11_knows_183 rfl 0 rfl rfl ?_
          refine g_goto (tgt := 190) dX11_knows_184 (by decide) ?_
          refine g_putL (pc' := 193) dX11_knows_190 rfl fX11_160 o159 rfl ?_
          rw [show kD σ = (σ.1, u2 σ.2 159 17 (gcdF ((rX11_far (σ.2 159 13) σ).toInt.natAbs + 1) (rX11_far (gcdF ((rX11_far (σ.2 159 12) σ).toInt.natAbs + 1) (rX11_far ((σ.2 159 11) - 1) σ) (rX11_far (σ.2 159 12) σ)) σ) (rX11_far (σ.2 159 13) σ))) by unfold kD knN dvF; rw [if_pos c1, if_neg c2, if_pos c3, if_pos c4]] at k
          refine g_sub [1] rfl ?_
          exact k
set_option maxRecDepth 100000 in
set_option maxHeartbeats 4000000 in
theorem kn_E {l : Launch} {b : Nat} {cy : Nat → ClassId} {D : va_G} {d : Nat} {σ : Sg} (g : KE σ) : Gs l b cy D (d + 3) yX11_knows cX11_knows (Option.none : Option Jvm.ClassFile.FieldType) 3 none (kE σ) 193 [(0, .ref (b + 159))] [] σ := by
  refine g_aload_n (pc' := 194) dX11_knows_193 rfl 0 rfl rfl ?_
  refine g_getI (pc' := 197) dX11_knows_194 rfl (PLk.lf fX11_168) o159 rfl ?_
  refine g_iconst (pc' := 198) (v := 3) dX11_knows_197 rfl (by decide) ?_
  refine g_icmp_ne (pc' := 201) (tgt := 234) dX11_knows_198 rfl (by decide) (fun (c1 : ¬ (σ.1 159 15 : Int32) = 3) => ?_) (fun (c1 : (σ.1 159 15 : Int32) = 3) => ?_)
  · exact g_vret dX11_knows_234 rfl ⟨rfl, rfl⟩ (by unfold kE; rw [if_neg c1])
  · refine g_aload_n (pc' := 202) dX11_knows_201 rfl 0 rfl rfl ?_
    refine g_getL (pc' := 205) dX11_knows_202 rfl (PLk.lf fX11_126) o159 rfl ?_
    refine g_lstore_n (pc' := 206) (j := 1) (lv' := [(1, .long (σ.2 159 16)), (0, .ref (b + 159))]) dX11_knows_205 rfl rfl (by decide) rfl ?_
    refine g_aload_n (pc' := 207) dX11_knows_206 rfl 1 rfl rfl ?_
    refine g_aload_n (pc' := 208) dX11_knows_207 rfl 1 rfl rfl ?_
    refine g_getL (pc' := 211) dX11_knows_208 rfl (PLk.lf fX11_126) o159 rfl ?_
    refine g_callsr (pc' := 214) dX11_knows_211 rfl mX11_116 (ev_X11_far (x1 := σ.2 159 16) (σ := σ)  (d := d + 2)) (rm_ok (by omega) (by decide)) ⟨rfl, rfl⟩ ⟨Nat.zero_le _, Nat.zero_le _⟩ rfl rfl (Nat.le_of_ble_eq_true rfl) ?_
    refine g_putL (pc' := 217) dX11_knows_214 rfl fX11_126 o159 rfl ?_
    refine g_aload_n (pc' := 218) dX11_knows_217 rfl 1 rfl rfl ?_
    refine g_callv (pc' := 221) dX11_knows_218 rfl mX11_180 (ev_X11_carries (σ := (σ.1, u2 σ.2 159 16 (rX11_far (σ.2 159 16) σ))) (g c1).1 (d := d)) o159 rfl (rm_ok (by omega) (by decide)) ⟨rfl, rfl⟩ ⟨Nat.zero_le _, Nat.zero_le _⟩ rfl rfl (Nat.le_of_ble_eq_true rfl) ?_
    refine g_aload_n (pc' := 222) dX11_knows_221 rfl 1 rfl rfl ?_
    refine g_callv (pc' := 225) dX11_knows_222 rfl mX11_183 (ev_X11_spells (σ := caT (σ.1, u2 σ.2 159 16 (rX11_far (σ.2 159 16) σ))) (g c1).2.1 (d := d + 1)) o159 rfl (rm_ok (by omega) (by decide)) ⟨rfl, rfl⟩ ⟨Nat.zero_le _, Nat.zero_le _⟩ rfl rfl (Nat.le_of_ble_eq_true rfl) ?_
    refine g_aload_n (pc' := 226) dX11_knows_225 rfl 1 rfl rfl ?_
    refine g_callv (pc' := 229) dX11_knows_226 rfl mX11_186 (ev_X11_turns (n := kn3 σ) (σ := splT (caT (σ.1, u2 σ.2 159 16 (rX11_far (σ.2 159 16) σ)))) (g c1).2.2.1 (g c1).2.2.2.1 (g c1).2.2.2.2.1 (g c1).2.2.2.2.2 (d := d + 1)) o159 rfl (rm_ok (by omega) (by decide)) ⟨rfl, rfl⟩ ⟨Nat.zero_le _, Nat.zero_le _⟩ rfl rfl (Nat.le_of_ble_eq_true rfl) ?_
    refine g_aload_n (pc' := 230) dX11_knows_229 rfl 1 rfl rfl ?_
    refine g_lload_n (pc' := 231) dX11_knows_230 rfl 0 rfl rfl ?_
    refine g_putL (pc' := 234) dX11_knows_231 rfl fX11_126 o159 rfl ?_
    exact g_vret dX11_knows_234 rfl ⟨rfl, rfl⟩ (by unfold kE; rw [if_pos c1]; rfl)
set_option maxRecDepth 100000 in
set_option maxHeartbeats 4000000 in
theorem ev_X11_knows {l : Launch} {b : Nat} {cy : Nat → ClassId} {D : va_G} {d : Nat} {σ : Sg} (hK : KnOk σ) : Es l b cy D (d + 3) yX11_knows cX11_knows (Option.none : Option Jvm.ClassFile.FieldType) 3 [.ref (b + 159)] σ none (sKn σ) := by
  refine Ev.of (by decide) (Nat.le_of_ble_eq_true rfl) rfl ?_
  rw [sKn_e]
  exact kn_0 (kn_A (kn_B (kn_C (kn_D (kn_E hK)))))
theorem kq_k0 {σ : Sg} : Kq I8 L8 σ (k0 σ) := ((Kq.i (τ := (_, σ.2)) (a := 159) (j := 20) (Eq.refl _) (Kq.i (τ := σ) (a := 159) (j := 19) (Eq.refl _) Kq.rfl)).trans (Kq.l (τ := (_, _)) (a := 159) (j := 21) (Eq.refl _) (Kq.l (τ := (_, _)) (a := 159) (j := 17) (Eq.refl _) (Kq.l (a := 159) (j := 16) (Eq.refl _) Kq.rfl))))
theorem kq_kC {σ : Sg} : Kq I8 L8 σ (kC σ) := by
  unfold kC sX11_changes
  split
  · exact Kq.rfl
  · split
    · exact kq_tk
    · exact Kq.rfl
theorem kq_kD {σ : Sg} : Kq I8 L8 σ (kD σ) := by
  unfold kD
  split
  · exact Kq.l (Eq.refl _) Kq.rfl
  · exact Kq.rfl
theorem kq_kP {σ : Sg} : Kq I8 L8 σ (kP σ) := ((((kq_k0.trans (Kq.i (Eq.refl _) Kq.rfl)).trans (Kq.i (Eq.refl _) Kq.rfl)).trans kq_kC).trans kq_kD)
theorem kq_kE {σ : Sg} (g : KE σ) : Kq I8 L8 σ (kE σ) := by
  unfold kE
  split
  · next c => exact ((((Kq.l (τ := σ) (a := 159) (j := 16) (Eq.refl _) Kq.rfl).trans (kq_caT (g c).1)).trans (kq_splT (g c).2.1)).trans kq_sTu).trans (Kq.l (Eq.refl _) Kq.rfl)
  · exact Kq.rfl
theorem kq_sKn {σ : Sg} (h : KnOk σ) : Kq I8 L8 σ (sKn σ) := by
  rw [sKn_e]
  exact kq_kP.trans (kq_kE h)
noncomputable def kM (σ : Sg) : Nat := (hd ((sKn σ).1 159 19).toNatClampNeg).1
theorem kM_d (σ : Sg) : kM σ = ((sKn σ).1 159 19).toNatClampNeg := (hd ((sKn σ).1 159 19).toNatClampNeg).2
theorem kC1 (σ : Sg) : (kC σ).1 = σ.1 := by
  unfold kC sX11_changes sX11_takes
  split
  · rfl
  · split <;> rfl
theorem kD1 (σ : Sg) : (kD σ).1 = σ.1 := by
  unfold kD
  split <;> rfl
theorem kP_19 (σ : Sg) : (kP σ).1 159 19 = 0 := by
  unfold kP
  rw [kD1, kC1]
  unfold kB kA k0
  dsimp only
  rw [u2_j (by decide), u2_j (by decide), u2_j (by decide), u2_eq]
theorem nIc {n : Nat} (h : n ≤ 1000) : (nI n).toNatClampNeg = n := by
  unfold nI
  rw [Int32.toNatClampNeg, Int32.toInt_ofNat_of_lt (by omega)]
  omega
theorem kE_3 {σ : Sg} (c : σ.1 159 15 = 3) : (kE σ).1 = (sTu (kn3 σ) (splT (caT (k3 σ)))).1 := by unfold kE; rw [if_pos c]
theorem kE_n {σ : Sg} (c : ¬ σ.1 159 15 = 3) : kE σ = σ := by unfold kE; rw [if_neg c]
theorem kM_e {σ : Sg} (h : KE σ) (h0 : σ.1 159 19 = 0) : ∃ n, n ≤ 62 ∧ (kE σ).1 159 19 = nI n := by
  by_cases c : σ.1 159 15 = 3
  · rw [kE_3 c]
    have t := h c
    exact ⟨_, t.2.2.2.2.2.2.1, sTu_19 t.2.2.2.2.2⟩
  · rw [kE_n c]
    exact ⟨0, by omega, h0⟩
theorem kM_ok {σ : Sg} (h : KnOk σ) : (sKn σ).1 159 19 = nI (kM σ) ∧ kM σ ≤ 62 := by
  have e : ∃ n, n ≤ 62 ∧ (sKn σ).1 159 19 = nI n := by rw [sKn_e]; exact kM_e h (kP_19 σ)
  obtain ⟨n, h1, h2⟩ := e
  have e3 : kM σ = n := by rw [kM_d, h2]; exact nIc (by omega)
  rw [e3]
  exact ⟨h2, h1⟩
