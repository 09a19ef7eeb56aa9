/-! Runs, wheels. -/
def ex : Bool → List Nat → List Bool
  | _, [] => []
  | x, n :: w => List.replicate n x ++ ex (!x) w
def rpos (w : List Nat) : Prop := ∀ n ∈ w, 1 ≤ n
theorem rpos_c {n : Nat} {w : List Nat} (h : rpos (n :: w)) : 1 ≤ n ∧ rpos w := ⟨h n List.mem_cons_self, fun m hm => h m (List.mem_cons_of_mem _ hm)⟩
theorem rpos_a {u v : List Nat} (h : rpos (u ++ v)) : rpos u ∧ rpos v := ⟨fun m hm => h m (List.mem_append_left _ hm), fun m hm => h m (List.mem_append_right _ hm)⟩
theorem rpos_app {u v : List Nat} (h : rpos u) (h' : rpos v) : rpos (u ++ v) := fun m hm => (List.mem_append.mp hm).elim (h m) (h' m)
theorem rpos_rot {w : List Nat} (h : rpos w) (i : Nat) : rpos (w.drop i ++ w.take i) := rpos_app (fun m hm => h m (List.mem_of_mem_drop hm)) (fun m hm => h m (List.mem_of_mem_take hm))
theorem ex_2 (n m : Nat) (w : List Nat) : ex true (n :: m :: w) = List.replicate n true ++ (List.replicate m false ++ ex true w) := rfl
theorem ev_ind {P : List Nat → Prop} (h0 : P []) (h2 : ∀ n m w, P w → P (n :: m :: w)) : ∀ (w : List Nat), w.length % 2 = 0 → P w
  | [], _ => h0
  | [_], h => absurd h (by simp)
  | n :: m :: w, h => h2 n m w (ev_ind h0 h2 w (by simp only [List.length_cons] at h; omega))
theorem ex_ev (v : List Nat) : ∀ (u : List Nat), u.length % 2 = 0 → ex true (u ++ v) = ex true u ++ ex true v := by
  apply ev_ind
  · rfl
  · intro n m w ih
    simp only [List.cons_append, ex_2, ih, List.append_assoc]
theorem rep_hd {n : Nat} (h : 1 ≤ n) (x : Bool) (A : List Bool) : (List.replicate n x ++ A).head? = some x := by
  obtain ⟨k, rfl⟩ : ∃ k, n = k + 1 := ⟨n - 1, by omega⟩
  rfl
theorem ex_hd {w : List Nat} {x : Bool} (h : rpos w) : (ex x w).head? ≠ some (!x) := by
  cases w with
  | nil => simp [ex]
  | cons n w =>
    rw [ex, rep_hd (rpos_c h).1]
    cases x <;> decide
theorem ex_hd1 {w : List Nat} {x : Bool} (h : rpos w) (h0 : w ≠ []) : (ex x w).head? = some x := by
  cases w with
  | nil => exact absurd rfl h0
  | cons n w => rw [ex, rep_hd (rpos_c h).1]
theorem fr_uniq {x : Bool} : ∀ (n m : Nat) (A B : List Bool), A.head? ≠ some x → B.head? ≠ some x → List.replicate n x ++ A = List.replicate m x ++ B → n = m ∧ A = B := by
  intro n
  induction n with
  | zero =>
    intro m A B hA hB h
    cases m with
    | zero => exact ⟨rfl, by simpa using h⟩
    | succ m =>
      exfalso
      apply hA
      have : A = List.replicate (m + 1) x ++ B := by simpa using h
      rw [this]
      exact rep_hd (by omega) x B
  | succ n ih =>
    intro m A B hA hB h
    cases m with
    | zero =>
      exfalso
      apply hB
      have : B = List.replicate (n + 1) x ++ A := by simpa using h.symm
      rw [this]
      exact rep_hd (by omega) x A
    | succ m =>
      have h2 : List.replicate n x ++ A = List.replicate m x ++ B := by
        simp only [List.replicate_succ, List.cons_append] at h
        exact (List.cons.inj h).2
      obtain ⟨h3, h4⟩ := ih m A B hA hB h2
      exact ⟨by omega, h4⟩
theorem ex_inj : ∀ {w w' : List Nat} {x : Bool}, rpos w → rpos w' → ex x w = ex x w' → w = w' := by
  intro w
  induction w with
  | nil =>
    intro w' x h h' e
    cases w' with
    | nil => rfl
    | cons n w' =>
      exfalso
      have := rep_hd (rpos_c h').1 x (ex (!x) w')
      rw [show List.replicate n x ++ ex (!x) w' = [] from e.symm] at this
      simp at this
  | cons n w ih =>
    intro w' x h h' e
    cases w' with
    | nil =>
      exfalso
      have := rep_hd (rpos_c h).1 x (ex (!x) w)
      rw [show List.replicate n x ++ ex (!x) w = [] from e] at this
      simp at this
    | cons m w' =>
      have h1 := ex_hd (x := !x) (rpos_c h).2
      have h2 := ex_hd (x := !x) (rpos_c h').2
      rw [Bool.not_not] at h1 h2
      obtain ⟨h3, h4⟩ := fr_uniq n m _ _ h1 h2 e
      rw [h3, ih (rpos_c h).2 (rpos_c h').2 h4]
theorem rep_last {m : Nat} (h : 1 ≤ m) (x : Bool) (A : List Bool) : (A ++ List.replicate m x).getLast? = some x := by
  obtain ⟨k, rfl⟩ : ∃ k, m = k + 1 := ⟨m - 1, by omega⟩
  rw [List.replicate_succ', ← List.append_assoc]
  exact List.getLast?_concat
theorem last_app {A B : List Bool} (h : B ≠ []) : (A ++ B).getLast? = B.getLast? := by
  rw [List.getLast?_append]
  cases hb : B.getLast? with
  | none => exact absurd (List.getLast?_eq_none_iff.mp hb) h
  | some z => rfl
theorem ex_last : ∀ (w : List Nat), w.length % 2 = 0 → rpos w → w ≠ [] → (ex true w).getLast? = some false := by
  apply ev_ind
  · intro _ h; exact absurd rfl h
  · intro n m w ih hp _
    rw [ex_2]
    by_cases hw : w = []
    · subst hw
      rw [show ex true [] = [] from rfl, List.append_nil]
      exact rep_last (rpos_c (rpos_c hp).2).1 false _
    · have hx := ih (rpos_c (rpos_c hp).2).2 hw
      have hne : ex true w ≠ [] := fun z => by rw [z] at hx; simp at hx
      rw [last_app (fun z => hne (List.append_eq_nil_iff.mp z).2), last_app hne]
      exact hx
theorem rep_sub {m : Nat} {x : Bool} {A B : List Bool} (h : List.replicate m x = A ++ B) : (∀ y, A.getLast? = some y → y = x) ∧ (∀ y, B.head? = some y → y = x) := by
  have key : ∀ y ∈ A ++ B, y = x := by
    intro y hy
    rw [← h] at hy
    exact (List.mem_replicate.mp hy).2
  exact ⟨fun y hy => key y (List.mem_append_left _ (List.mem_of_getLast? hy)), fun y hy => key y (List.mem_append_right _ (List.mem_of_head? hy))⟩
theorem ex_cut : ∀ (w : List Nat), w.length % 2 = 0 → ∀ (u v : List Bool), ex true w = u ++ v → u.getLast? = some false → v.head? = some true → ∃ i, i % 2 = 0 ∧ i ≤ w.length ∧ u = ex true (w.take i) ∧ v = ex true (w.drop i) := by
  apply ev_ind
  · intro u v h h1 h2
    exfalso
    have : v = [] := (List.append_eq_nil_iff.mp h.symm).2
    rw [this] at h2
    simp at h2
  · intro n m w ih u v h h1 h2
    rw [ex_2] at h
    rcases List.append_eq_append_iff.mp h with ⟨as, e1, e2⟩ | ⟨bs, e1, e2⟩
    · rcases List.append_eq_append_iff.mp e2 with ⟨cs, e3, e4⟩ | ⟨ds, e3, e4⟩
      · by_cases hc : cs = []
        · subst hc
          refine ⟨2, rfl, by simp only [List.length_cons]; omega, ?_, ?_⟩
          · rw [e1, e3]; simp [ex]
          · rw [show ex true (List.drop 2 (n :: m :: w)) = ex true w from rfl, e4]; rfl
        · have hl : cs.getLast? = some false := by
            rw [e1, e3, last_app (fun z => hc (List.append_eq_nil_iff.mp z).2), last_app hc] at h1
            exact h1
          obtain ⟨i, q1, q2, q3, q4⟩ := ih cs v e4 hl h2
          refine ⟨i + 2, by omega, by simp only [List.length_cons]; omega, ?_, ?_⟩
          · rw [e1, e3, q3]
            simp only [List.take_succ_cons]
            rw [ex_2]
          · rw [q4]
            simp only [List.drop_succ_cons]
      · have hds : ds = [] := by
          cases ds with
          | nil => rfl
          | cons y ds =>
            exfalso
            have := (rep_sub e3).2 y rfl
            rw [e4] at h2
            simp at h2
            rw [h2] at this
            exact absurd this (by decide)
        subst hds
        simp only [List.append_nil] at e3
        simp only [List.nil_append] at e4
        refine ⟨2, rfl, by simp only [List.length_cons]; omega, ?_, ?_⟩
        · rw [e1, ← e3]; simp [ex]
        · exact e4
    · exfalso
      have := (rep_sub e1).1 false h1
      exact absurd this (by decide)
theorem wh_rot {w w' : List Nat} {x y : List Bool} (hw : w.length % 2 = 0) (hw' : w'.length % 2 = 0) (hp : rpos w) (hp' : rpos w') (h0 : w' ≠ []) (e : ex true w = x ++ y) (e' : ex true w' = y ++ x) : ∃ i, i % 2 = 0 ∧ i ≤ w.length ∧ w' = w.drop i ++ w.take i := by
  by_cases hx : x = []
  · subst hx
    refine ⟨0, rfl, Nat.zero_le _, ?_⟩
    have : ex true w' = ex true w := by rw [e, e']; simp
    rw [ex_inj hp' hp this]; simp
  · by_cases hy : y = []
    · subst hy
      refine ⟨0, rfl, Nat.zero_le _, ?_⟩
      have : ex true w' = ex true w := by rw [e, e']; simp
      rw [ex_inj hp' hp this]; simp
    · have h1 := ex_last w' hw' hp' h0
      rw [e', last_app hx] at h1
      have h2 := ex_hd1 (x := true) hp' h0
      rw [e'] at h2
      have h3 : y.head? = some true := by
        cases y with
        | nil => exact absurd rfl hy
        | cons z y => simpa using h2
      obtain ⟨i, q1, q2, q3, q4⟩ := ex_cut w hw x y e h1 h3
      refine ⟨i, q1, q2, ?_⟩
      apply ex_inj (x := true) hp' (rpos_rot hp i)
      rw [e', ex_ev _ _ (by rw [List.length_drop]; omega), ← q3, ← q4]
theorem mw_true {u : List Bool} (h : true ∈ u) : 1 ≤ (mw u).2.1 := by
  induction u with
  | nil => simp at h
  | cons x u ih =>
    have k := mw_nn u
    cases x
    · rw [mw_f]; simp only; exact ih (by simpa using h)
    · rw [mw_t]; simp only; omega
theorem mw_false {u : List Bool} (h : false ∈ u) : 1 ≤ (mw u).2.2.1 := by
  induction u with
  | nil => simp at h
  | cons x u ih =>
    have k := mw_nn u
    cases x
    · rw [mw_f]; simp only; omega
    · rw [mw_t]; simp only; exact ih (by simpa using h)
theorem ex_both {w : List Nat} (hw : w.length % 2 = 0) (hp : rpos w) (h0 : w ≠ []) : true ∈ ex true w ∧ false ∈ ex true w :=
  ⟨List.mem_of_head? (ex_hd1 hp h0), List.mem_of_getLast? (ex_last w hw hp h0)⟩
/-- C, turned back -/
def mad (C : Mx) : Mx := (C.2.2.2, -C.2.1, -C.2.2.1, C.1)
theorem mm_ad {C : Mx} (h : mdt C = 1) : mm C (mad C) = mo := by
  unfold mdt at h
  apply mx_ext <;> simp only [mm, mad, mo] <;> grind
theorem ad_mm {C : Mx} (h : mdt C = 1) : mm (mad C) C = mo := by
  unfold mdt at h
  apply mx_ext <;> simp only [mm, mad, mo] <;> grind
theorem mdt_ad (C : Mx) : mdt (mad C) = mdt C := by
  simp only [mdt, mad]; grind
/-- B comes of A by C -/
def cjb (C A B : Mx) : Prop := mdt C = 1 ∧ mm C A = mm B C
theorem cjb.rfl' {A : Mx} : cjb mo A A := ⟨rfl, by rw [mo_m, mm_o]⟩
theorem cjb.trans {C D A B E : Mx} (h : cjb C A B) (h' : cjb D B E) : cjb (mm D C) A E := by
  refine ⟨by rw [mdt_mm, h.1, h'.1]; rfl, ?_⟩
  rw [mm_assoc, h.2, ← mm_assoc, h'.2, mm_assoc]
theorem cjb.symm {C A B : Mx} (h : cjb C A B) : cjb (mad C) B A := by
  refine ⟨by rw [mdt_ad]; exact h.1, ?_⟩
  have e : mm (mm (mad C) (mm C A)) (mad C) = mm (mm (mad C) (mm B C)) (mad C) := by rw [h.2]
  rw [← mm_assoc (mad C) C A, ad_mm h.1, mo_m, mm_assoc (mad C) (mm B C), mm_assoc B, mm_ad h.1, mm_o] at e
  exact e.symm
theorem cjb.tr {C A B : Mx} (h : cjb C A B) : mtr A = mtr B := by
  have e : mm (mm C A) (mad C) = B := by rw [h.2, mm_assoc, mm_ad h.1, mm_o]
  have h1 := h.1
  rw [← e]
  unfold mdt at h1
  simp only [mtr, mm, mad]
  grind
theorem cjb.dt {C A B : Mx} (h : cjb C A B) : mdt A = mdt B := by
  have e := congrArg mdt h.2
  rw [mdt_mm, mdt_mm, h.1] at e
  omega
/-- w is the wheel of A -/
def IsWh (A : Mx) (w : List Nat) : Prop := w.length % 2 = 0 ∧ w ≠ [] ∧ rpos w ∧ (∀ i, i % 2 = 0 → i < w.length → w ≤ w.drop i ++ w.take i) ∧ ∃ C, cjb C A (mw (ex true w))
theorem le_anti {u v : List Nat} (h : u ≤ v) (h' : v ≤ u) : u = v := by
  rcases List.le_iff_lt_or_eq.mp h with k | k
  · exact absurd k h'
  · exact k
theorem ls_rfl (u : List Nat) : u ≤ u := List.le_refl u
theorem cj_wrot {A : Mx} {u v : List Bool} {C D : Mx} (h : cjb C A (mw u)) (h' : cjb D A (mw v)) (hu : true ∈ u ∧ false ∈ u) (hv : v ≠ []) : ∃ x y, u = y ++ x ∧ v = x ++ y := by
  have k := h.symm.trans h'
  exact cj_rot k.1 ⟨mw_true hu.1, mw_false hu.2⟩ hv k.2
theorem wh_uniq {A : Mx} {w w' : List Nat} (h : IsWh A w) (h' : IsWh A w') : w = w' := by
  obtain ⟨h1, h2, h3, h4, C, h5⟩ := h
  obtain ⟨k1, k2, k3, k4, D, k5⟩ := h'
  have hn : ex true w' ≠ [] := fun z => by
    have := ex_hd1 (x := true) k3 k2
    rw [z] at this
    simp at this
  obtain ⟨x, y, e1, e2⟩ := cj_wrot h5 k5 (ex_both h1 h3 h2) hn
  obtain ⟨i, i1, i2, i3⟩ := wh_rot h1 k1 h3 k3 k2 e1 e2
  obtain ⟨j, j1, j2, j3⟩ := wh_rot k1 h1 k3 h3 h2 e2 e1
  apply le_anti
  · by_cases hi : i < w.length
    · rw [i3]; exact h4 i i1 hi
    · rw [i3, show i = w.length by omega]; simp [ls_rfl]
  · by_cases hj : j < w'.length
    · have := k4 j j1 hj
      rw [← j3] at this
      exact this
    · rw [show j = w'.length by omega] at j3
      simp at j3
      rw [j3]; exact ls_rfl _
/-- how great the numbers of a wheel are -/
theorem mw_rep_t (n : Nat) (A : List Bool) : mw (List.replicate n true ++ A) = ((mw A).1 + n * (mw A).2.2.1, (mw A).2.1 + n * (mw A).2.2.2, (mw A).2.2.1, (mw A).2.2.2) := by
  induction n with
  | zero => simp
  | succ n ih =>
    rw [List.replicate_succ, List.cons_append, mw_t, ih]
    apply mx_ext <;> simp only <;> grind
theorem mw_rep_f (n : Nat) (A : List Bool) : mw (List.replicate n false ++ A) = ((mw A).1, (mw A).2.1, (mw A).2.2.1 + n * (mw A).1, (mw A).2.2.2 + n * (mw A).2.1) := by
  induction n with
  | zero => simp
  | succ n ih =>
    rw [List.replicate_succ, List.cons_append, mw_f, ih]
    apply mx_ext <;> simp only <;> grind
theorem wh_grow : ∀ (w : List Nat), w.length % 2 = 0 → rpos w → (2 : Int) ^ (w.length / 2) ≤ (mw (ex true w)).1 ∧ ∀ n ∈ w, (n : Int) < (mw (ex true w)).1 := by
  apply ev_ind
  · intro _
    exact ⟨by decide, fun n hn => by simp at hn⟩
  · intro n m w ih hp
    obtain ⟨h1, h2⟩ := ih (rpos_c (rpos_c hp).2).2
    have hn : 1 ≤ n := (rpos_c hp).1
    have hm : 1 ≤ m := (rpos_c (rpos_c hp).2).1
    rw [ex_2, mw_rep_t, mw_rep_f]
    have k := mw_nn (ex true w)
    generalize mw (ex true w) = P at *
    obtain ⟨p, q, r, s⟩ := P
    simp only at *
    have e1 : p + (n : Int) * (r + m * p) = p + n * r + (n * m : Int) * p := by grind
    rw [e1]
    have e2 : (n : Int) * r ≥ 0 := Int.mul_nonneg (by omega) (by omega)
    have e3 : (n : Int) ≤ n * m := by
      have := Int.mul_le_mul_of_nonneg_left (show (1 : Int) ≤ m by omega) (show (0 : Int) ≤ n by omega)
      omega
    have e4 : (m : Int) ≤ n * m := by
      have := Int.mul_le_mul_of_nonneg_right (show (1 : Int) ≤ n by omega) (show (0 : Int) ≤ m by omega)
      omega
    have e5 : (n * m : Int) ≤ n * m * p := by
      have := Int.mul_le_mul_of_nonneg_left (show (1 : Int) ≤ p by omega) (show (0 : Int) ≤ n * m by omega)
      omega
    have e6 : p ≤ n * m * p := by
      have := Int.mul_le_mul_of_nonneg_right (show (1 : Int) ≤ n * m by omega) (show (0 : Int) ≤ p by omega)
      omega
    refine ⟨?_, ?_⟩
    · rw [show (n :: m :: w).length / 2 = w.length / 2 + 1 by simp only [List.length_cons]; omega, Int.pow_succ]
      omega
    · intro j hj
      rcases List.mem_cons.mp hj with rfl | hj
      · omega
      · rcases List.mem_cons.mp hj with rfl | hj
        · omega
        · have := h2 j hj
          omega
theorem wh_len {w : List Nat} {C A : Mx} (h1 : w.length % 2 = 0) (h3 : rpos w) (h : cjb C A (mw (ex true w))) (ht : mtr A ≤ 2000000) : w.length ≤ 40 ∧ ∀ n ∈ w, n < 2000000 := by
  obtain ⟨g1, g2⟩ := wh_grow w h1 h3
  have e := h.tr
  have k := mw_nn (ex true w)
  have e2 : (mw (ex true w)).1 < 2000000 := by
    unfold mtr at e ht
    omega
  refine ⟨?_, fun n hn => ?_⟩
  · refine Nat.le_of_not_lt fun hl => ?_
    have h5 : (2 : Nat) ^ 21 ≤ 2 ^ (w.length / 2) := Nat.pow_le_pow_right (by decide) (by omega)
    have h6 : ((2 : Nat) ^ (w.length / 2) : Int) = (2 : Int) ^ (w.length / 2) := by norm_cast
    have h7 : (((2 : Nat) ^ 21 : Nat) : Int) ≤ ((2 ^ (w.length / 2) : Nat) : Int) := by exact_mod_cast h5
    have h8 : ((2 ^ (w.length / 2) : Nat) : Int) = (2 : Int) ^ (w.length / 2) := by norm_cast
    rw [h8] at h7
    have h9 : (((2 : Nat) ^ 21 : Nat) : Int) = 2097152 := by decide
    omega
  · have := g2 n hn
    omega
