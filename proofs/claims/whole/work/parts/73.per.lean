/-! How often a wheel comes round. -/
theorem least_ex {P : Nat → Prop} : ∀ (n : Nat), P n → ∃ m, P m ∧ m ≤ n ∧ ∀ k, k < m → ¬ P k := by
  intro n
  induction n using Nat.strongRecOn with
  | ind n ih =>
    intro h
    by_cases c : ∃ k, k < n ∧ P k
    · obtain ⟨k, k1, k2⟩ := c
      obtain ⟨m, m1, m2, m3⟩ := ih k k1 k2
      exact ⟨m, m1, by omega, m3⟩
    · exact ⟨n, h, Nat.le_refl _, fun k hk hp => c ⟨k, hk, hp⟩⟩
theorem fix_add {α : Type} {w : List α} {i j : Nat} (hi : i ≤ w.length) (hj : j ≤ w.length) (h0 : 0 < w.length) (fi : rtl w i = w) : rtl w ((i + j) % w.length) = rtl w j := by
  rw [← rtl_rtl hi hj h0, fi]
/-- the least turning that leaves a row, among those that q allows -/
theorem fix_dvd {α : Type} {w : List α} {q y : Nat} (hq : q ∣ w.length) (h0 : 0 < w.length) (hy : q ∣ y) (y0 : 0 < y) (yl : y ≤ w.length) (fy : rtl w y = w) (ym : ∀ k, k < y → ¬ (0 < k ∧ q ∣ k ∧ rtl w k = w)) : ∀ k, k ≤ w.length → q ∣ k → (rtl w k = w ↔ y ∣ k) := by
  have mul : ∀ m, m * y ≤ w.length → rtl w (m * y) = w := by
    intro m
    induction m with
    | zero => intro _; rw [Nat.zero_mul]; exact rtl_0 w
    | succ m ih =>
      intro h
      rw [Nat.succ_mul] at h ⊢
      have := ih (by omega)
      by_cases c : m * y + y = w.length
      · rw [c]; exact rtl_n w
      · have e := fix_add (show m * y ≤ w.length by omega) yl h0 this
        rw [Nat.mod_eq_of_lt (by omega)] at e
        rw [e, fy]
  intro k hk hqk
  constructor
  · intro fk
    have e := Nat.div_add_mod k y
    have hr := Nat.mod_lt k y0
    by_cases c : k % y = 0
    · exact Nat.dvd_of_mod_eq_zero c
    · exfalso
      have hm : k / y * y ≤ k := Nat.div_mul_le_self k y
      have fm := mul (k / y) (by omega)
      have e2 : k / y * y + k % y = k := by rw [Nat.mul_comm]; exact e
      have f := fix_add (show k / y * y ≤ w.length by omega) (show k % y ≤ w.length by omega) h0 fm
      rw [e2] at f
      refine ym (k % y) hr ⟨by omega, ?_, ?_⟩
      · have h1 : q ∣ k / y * y := Nat.dvd_trans hy (Nat.dvd_mul_left _ _)
        exact (Nat.dvd_add_right h1).mp (by rw [e2]; exact hqk)
      · rw [← f]
        by_cases c2 : k = w.length
        · rw [c2, Nat.mod_self]; exact rtl_0 w
        · rw [Nat.mod_eq_of_lt (by omega)]; exact fk
  · intro ⟨m, hm⟩
    rw [hm, Nat.mul_comm]
    exact mul m (by rw [Nat.mul_comm, ← hm]; exact hk)
theorem fix_ex {α : Type} {w : List α} {q : Nat} (hq : q ∣ w.length) (h0 : 0 < w.length) : ∃ y, 0 < y ∧ y ≤ w.length ∧ q ∣ y ∧ rtl w y = w ∧ y ∣ w.length ∧ (∀ k, k < y → ¬ (0 < k ∧ q ∣ k ∧ rtl w k = w)) ∧ ∀ k, k ≤ w.length → q ∣ k → (rtl w k = w ↔ y ∣ k) := by
  obtain ⟨y, ⟨p1, p2, p3⟩, p4, p5⟩ := least_ex (P := fun k => 0 < k ∧ q ∣ k ∧ rtl w k = w) w.length ⟨h0, hq, rtl_n w⟩
  have key := fix_dvd hq h0 p2 p1 p4 p3 p5
  exact ⟨y, p1, p4, p2, p3, (key w.length (Nat.le_refl _) hq).mp (rtl_n w), p5, key⟩
theorem again_go {f : Nat → Int32} {x n : Nat} : ∀ (m i : Nat), i + m = n → (againF f x m i = true ↔ ∀ j, i ≤ j → j < n → f j = f (j - x))
  | 0, i, h => by
    rw [againF]
    exact ⟨fun _ j h1 h2 => by omega, fun _ => rfl⟩
  | m + 1, i, h => by
    rw [againF]
    by_cases c : f i = f (i - x)
    · rw [if_pos c, again_go (n := n) m (i + 1) (by omega)]
      constructor
      · intro z j h1 h2
        by_cases e : j = i
        · rw [e]; exact c
        · exact z j (by omega) h2
      · intro z j h1 h2
        exact z j (by omega) h2
    · rw [if_neg c]
      exact ⟨fun z => absurd z (by decide), fun z => absurd (z i (Nat.le_refl _) (by omega)) c⟩
theorem again_rtl {f : Nat → Int32} {w : List Nat} (hv : Vl f w) (hb : sbn w) {x : Nat} (hx : x ≤ w.length) (h0 : 0 < x) (hd : x ∣ w.length) : againF f x (w.length - x) x = true ↔ rtl w x = w := by
  rw [again_go (n := w.length) _ _ (by omega)]
  have inj : ∀ i j, i < w.length → j < w.length → (f i = f j ↔ w[i]? = w[j]?) := by
    intro i j hi hj
    have a1 := sbn_get hb i
    have a2 := sbn_get hb j
    rw [hv i hi, hv j hj, nI_eq (by omega) (by omega), getD_of hi, getD_of hj]
    exact ⟨fun z => by rw [z], fun z => Option.some.inj z⟩
  constructor
  · intro z
    have step : ∀ q r, r + q * x < w.length → w[r + q * x]? = w[r]? := by
      intro q
      induction q with
      | zero => intro r _; rw [Nat.zero_mul, Nat.add_zero]
      | succ q ih =>
        intro r hr
        rw [Nat.succ_mul] at hr ⊢
        have := z (r + (q * x + x)) (by omega) (by omega)
        rw [show r + (q * x + x) - x = r + q * x by omega, inj _ _ (by omega) (by omega)] at this
        rw [this]
        exact ih r (by omega)
    apply ext_n (n := w.length) (rtl_len _ _) rfl
    intro j hj
    rw [rtl_get hx hj]
    by_cases c : x + j < w.length
    · rw [mod_lt1 c]
      have := z (x + j) (by omega) c
      rw [show x + j - x = j by omega, inj _ _ (by omega) (by omega)] at this
      exact this
    · rw [mod_lt2 (by omega) (by omega)]
      obtain ⟨q, hq⟩ := hd
      have e : x + j - w.length + (q - 1) * x = j := by
        have : 1 ≤ q := by
          cases q with
          | zero => rw [Nat.mul_zero] at hq; omega
          | succ q => omega
        rw [Nat.sub_mul, Nat.one_mul, Nat.mul_comm q x, ← hq]
        omega
      have := step (q - 1) (x + j - w.length) (by rw [e]; exact hj)
      rw [e] at this
      exact this.symm
  · intro z j h1 h2
    rw [inj _ _ h2 (by omega)]
    have e := rtl_get hx (show j - x < w.length by omega)
    rw [z, show x + (j - x) = j by omega, mod_lt1 h2] at e
    exact e.symm
theorem times_go {f : Nat → Int32} {w : List Nat} {y : Nat} (hv : Vl f w) (hb : sbn w) (y0 : 0 < y) (yl : y ≤ w.length) (h2 : 2 ∣ y) (yd : y ∣ w.length) (fy : rtl w y = w) (ym : ∀ k, k < y → ¬ (0 < k ∧ 2 ∣ k ∧ rtl w k = w)) : ∀ (m x : Nat), x ≤ y → 2 ∣ x → 0 < x → y < x + 2 * m → timesF f w.length m x = w.length / y
  | 0, x, h1, _, _, h4 => by omega
  | m + 1, x, h1, hx, h3, h4 => by
    rw [timesF, if_pos (by omega)]
    by_cases c : x = y
    · subst c
      rw [if_pos (Nat.mod_eq_zero_of_dvd yd), if_pos ((again_rtl hv hb yl y0 yd).mpr fy)]
    · have nx : timesF f w.length m (x + 2) = w.length / y := times_go hv hb y0 yl h2 yd fy ym m (x + 2) (by omega) (by omega) (by omega) (by omega)
      by_cases c1 : w.length % x = 0
      · rw [if_pos c1, if_neg (fun z => ym x (by omega) ⟨h3, hx, (again_rtl hv hb (by omega) h3 (Nat.dvd_of_mod_eq_zero c1)).mp z⟩), nx]
      · rw [if_neg c1, nx]
theorem tm_go {w : List Nat} {y : Nat} (y0 : 0 < y) (h2 : 2 ∣ y) (hd : y ∣ w.length) (key : ∀ k, k ≤ w.length → 2 ∣ k → (rtl w k = w ↔ y ∣ k)) : ∀ (m k : Nat), 2 ∣ k → w.length ≤ k + 2 * m → k ≤ w.length + 1 → tmC w m k + (k + (y - 1)) / y = w.length / y ∨ (w.length ≤ k ∧ tmC w m k = 0)
  | 0, k, _, h, _ => Or.inr ⟨by omega, rfl⟩
  | m + 1, k, hk, h, hl => by
    rw [tmC]
    by_cases c : k < w.length
    · rw [if_pos c]
      left
      have hk1 := key k (by omega) hk
      have nx := tm_go y0 h2 hd key m (k + 2) (by omega) (by omega) (by omega)
      have he : 2 ∣ w.length := Nat.dvd_trans h2 hd
      obtain ⟨N, hN⟩ := hd
      have eN : w.length / y = N := by rw [hN]; exact Nat.mul_div_cancel_left N y0
      -- the next step's count
      have nx2 : tmC w m (k + 2) + (k + 2 + (y - 1)) / y = N := by
        rcases nx with q | ⟨q1, q2⟩
        · rw [q, eN]
        · rw [q2, Nat.zero_add]
          have e1 : k + 2 = w.length := by omega
          rw [e1, hN, Nat.mul_add_div y0, Nat.div_eq_of_lt (by omega), Nat.add_zero]
      rw [eN]
      have e := Nat.div_add_mod k y
      have hr := Nat.mod_lt k y0
      generalize hQ : k / y = Q at *
      generalize hR : k % y = r at *
      by_cases dv : r = 0
      · have : y ∣ k := Nat.dvd_of_mod_eq_zero (hR.trans dv)
        rw [if_pos (hk1.mpr this)]
        have a1 : (k + (y - 1)) / y = Q := by
          rw [← e, dv, Nat.add_zero, Nat.mul_add_div y0, Nat.div_eq_of_lt (by omega), Nat.add_zero]
        have a2 : (k + 2 + (y - 1)) / y = Q + 1 := by
          rw [← e, dv, show y * Q + 0 + 2 + (y - 1) = y * Q + (y + 1) by omega, Nat.mul_add_div y0]
          congr 1
          rw [Nat.add_div_left _ y0, Nat.div_eq_of_lt (by omega)]
        omega
      · have : ¬ rtl w k = w := fun z => dv (by rw [← hR]; exact Nat.mod_eq_zero_of_dvd (hk1.mp z))
        rw [if_neg this, Nat.zero_add]
        have hr2 : r + 2 ≤ y := by
          obtain ⟨a, ha⟩ := h2
          obtain ⟨b, hb⟩ := hk
          rw [ha, Nat.mul_assoc] at e
          omega
        have a1 : (k + (y - 1)) / y = Q + 1 := by
          rw [← e, show y * Q + r + (y - 1) = y * Q + (y + (r - 1)) by omega, Nat.mul_add_div y0]
          congr 1
          rw [Nat.add_div_left _ y0, Nat.div_eq_of_lt (by omega)]
        have a2 : (k + 2 + (y - 1)) / y = Q + 1 := by
          rw [← e, show y * Q + r + 2 + (y - 1) = y * Q + (y + (r + 1)) by omega, Nat.mul_add_div y0]
          congr 1
          rw [Nat.add_div_left _ y0, Nat.div_eq_of_lt (by omega)]
        omega
    · rw [if_neg c]
      exact Or.inr ⟨by omega, rfl⟩
theorem tm_ok {w : List Nat} (hw : w.length % 2 = 0) (h0 : 0 < w.length) (hl : w.length ≤ 40) : ∃ y, 0 < y ∧ y ≤ w.length ∧ 2 ∣ y ∧ rtl w y = w ∧ y ∣ w.length ∧ (∀ k, k < y → ¬ (0 < k ∧ 2 ∣ k ∧ rtl w k = w)) ∧ (∀ k, k ≤ w.length → 2 ∣ k → (rtl w k = w ↔ y ∣ k)) ∧ TM w = w.length / y := by
  obtain ⟨y, p1, p2, p3, p4, p5, p6, p7⟩ := fix_ex (q := 2) (Nat.dvd_of_mod_eq_zero hw) h0
  refine ⟨y, p1, p2, p3, p4, p5, p6, p7, ?_⟩
  have := tm_go p1 p3 p5 p7 32 0 (by omega) (by omega) (by omega)
  rw [Nat.zero_add, Nat.div_eq_of_lt (by omega), Nat.add_zero] at this
  rcases this with q | ⟨q, _⟩
  · exact q
  · omega
/-- the class's times are the reference's -/
theorem times_ok {f : Nat → Int32} {w : List Nat} (hv : Vl f w) (hb : sbn w) (hw : w.length % 2 = 0) (hl : w.length ≤ 40) : timesF f w.length 21 2 = if w.length = 0 then 0 else TM w := by
  by_cases c : w.length = 0
  · rw [if_pos c, c, timesF, if_neg (by omega)]
  · obtain ⟨y, p1, p2, p3, p4, p5, p6, p7, p8⟩ := tm_ok hw (by omega) hl
    rw [if_neg c, p8]
    exact times_go hv hb p1 p2 p3 p5 p4 p6 21 2 (by omega) (by omega) (by omega) (by omega)
/-! The letters after which a wheel comes again. -/
theorem take_rep {w : List Nat} {y : Nat} (h0 : 0 < w.length) (yl : y ≤ w.length) (key : ∀ m, m * y ≤ w.length → rtl w (m * y) = w) : ∀ (m : Nat), m * y ≤ w.length → (w.take (m * y)).sum = m * (w.take y).sum := by
  intro m
  induction m with
  | zero => intro _; simp
  | succ m ih =>
    intro h
    rw [Nat.succ_mul] at h ⊢
    have e := key m (by omega)
    have e2 : (w.drop (m * y)).take y = w.take y := by
      have : (rtl w (m * y)).take y = w.take y := by rw [e]
      unfold rtl at this
      rw [List.take_append_of_le_length (by rw [List.length_drop]; omega)] at this
      exact this
    rw [List.take_add, List.sum_append, e2, ih (by omega), Nat.succ_mul]
theorem take_mono {w : List Nat} {i j : Nat} (h : i ≤ j) : (w.take i).sum ≤ (w.take j).sum := by
  have : w.take i = (w.take j).take i := by rw [List.take_take, Nat.min_eq_left h]
  rw [this]
  exact take_le _ _
theorem per_ok {W : List Nat} (hw : W.length % 2 = 0) (hp : rpos W) (h0 : W ≠ []) (hl : W.length ≤ 40) : ∃ S, 0 < S ∧ W.sum = TM W * S ∧ ∀ j, j ≤ W.sum → (rtl (ex true W) j = ex true W ↔ S ∣ j) := by
  have hpos : 0 < W.length := by
    cases W with
    | nil => exact absurd rfl h0
    | cons a b => simp
  obtain ⟨y, p1, p2, p3, p4, p5, p6, p7, p8⟩ := tm_ok hw hpos hl
  have mul : ∀ m, m * y ≤ W.length → rtl W (m * y) = W := fun m hm => (p7 (m * y) hm (Nat.dvd_trans p3 (Nat.dvd_mul_left _ _))).mpr (Nat.dvd_mul_left _ _)
  have sm := sum_ge W hp
  have el := ex_len W true
  -- the sum of the first y runs
  have hS : W.sum = W.length / y * (W.take y).sum := by
    have e1 : W.length / y * y = W.length := Nat.div_mul_cancel p5
    have := take_rep hpos p2 mul (W.length / y) (by omega)
    rw [e1, List.take_length] at this
    exact this
  have S0 : 0 < (W.take y).sum := by
    have h1 := sum_ge (W.take y) (fun n hn => hp n (List.mem_of_mem_take hn))
    rw [List.length_take] at h1
    omega
  have Sle : (W.take y).sum ≤ W.sum := take_le W y
  -- it leaves the word
  have fS : rtl (ex true W) (W.take y).sum = ex true W := by
    obtain ⟨u, v, e1, e2, e3, _⟩ := ex_rtl hw (Nat.mod_eq_zero_of_dvd p3) p2
    rw [p4] at e2
    have : (W.take y).sum = u.length := by rw [e3, ex_len]
    rw [this, e1, rtl_app, ← e2, e1]
  obtain ⟨P, q1, q2, _, q4, q5, q6, q7⟩ := fix_ex (w := ex true W) (q := 1) (Nat.one_dvd _) (by rw [el]; omega)
  have PS : P = (W.take y).sum := by
    have d1 := (q7 (W.take y).sum (by rw [el]; exact Sle) (Nat.one_dvd _)).mp fS
    have l1 := Nat.le_of_dvd S0 d1
    by_cases c : P < (W.take y).sum
    · exfalso
      have hP : P < (ex true W).length := by rw [el]; omega
      have ecut : ex true W = (ex true W).take P ++ (ex true W).drop P := (List.take_append_drop _ _).symm
      have erot : ex true W = (ex true W).drop P ++ (ex true W).take P := q4.symm
      have tne : (ex true W).take P ≠ [] := fun z => by
        have := congrArg List.length z
        rw [List.length_take, List.length_nil] at this
        omega
      have dne : (ex true W).drop P ≠ [] := fun z => by
        have := congrArg List.length z
        rw [List.length_drop, List.length_nil] at this
        omega
      have hlast : ((ex true W).take P).getLast? = some false := by
        have := ex_last W hw hp h0
        rw [erot, last_app tne] at this
        exact this
      have hhead : ((ex true W).drop P).head? = some true := by
        have := ex_hd1 (x := true) hp h0
        rw [erot] at this
        cases hd : (ex true W).drop P with
        | nil => exact absurd hd dne
        | cons a b => rw [hd] at this; exact this
      obtain ⟨i, i1, i2, i3, i4⟩ := ex_cut W hw _ _ ecut hlast hhead
      have eP : P = (W.take i).sum := by
        have := congrArg List.length i3
        rw [List.length_take, ex_len, ex_len] at this
        omega
      have fi : rtl W i = W := by
        apply ex_inj (x := true) (rpos_rot hp i) hp
        have : ex true (rtl W i) = ex true (W.drop i) ++ ex true (W.take i) := by
          unfold rtl
          rw [ex_ev _ _ (by rw [List.length_drop]; omega)]
        rw [show W.drop i ++ W.take i = rtl W i from rfl, this, ← i3, ← i4]
        exact q4
      have di := (p7 i i2 (Nat.dvd_of_mod_eq_zero i1)).mp fi
      have i0 : 0 < i := by
        cases i with
        | zero => rw [List.take_zero] at eP; simp at eP; omega
        | succ i => omega
      have := take_mono (w := W) (Nat.le_of_dvd i0 di)
      omega
    · omega
  refine ⟨(W.take y).sum, S0, by rw [p8]; exact hS, fun j hj => ?_⟩
  rw [← PS]
  exact q7 j (by rw [el]; exact hj) (Nat.one_dvd _)
