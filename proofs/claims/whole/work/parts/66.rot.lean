/-! Rows turned; the least beginning. -/
def rtl {α : Type} (w : List α) (i : Nat) : List α := w.drop i ++ w.take i
theorem rtl_len {α : Type} (w : List α) (i : Nat) : (rtl w i).length = w.length := by
  unfold rtl; rw [List.length_append, List.length_drop, List.length_take]; omega
theorem rtl_0 {α : Type} (w : List α) : rtl w 0 = w := by unfold rtl; simp
theorem rtl_n {α : Type} (w : List α) : rtl w w.length = w := by unfold rtl; simp
theorem mod_lt1 {a n : Nat} (h : a < n) : a % n = a := Nat.mod_eq_of_lt h
theorem mod_lt2 {a n : Nat} (h : n ≤ a) (h2 : a < n + n) : a % n = a - n := by
  rw [Nat.mod_eq_sub_mod h, Nat.mod_eq_of_lt (by omega)]
theorem rtl_get {α : Type} {w : List α} {i j : Nat} (hi : i ≤ w.length) (hj : j < w.length) : (rtl w i)[j]? = w[(i + j) % w.length]? := by
  unfold rtl
  by_cases h : j < w.length - i
  · rw [List.getElem?_append_left (by rw [List.length_drop]; exact h), List.getElem?_drop, mod_lt1 (by omega)]
  · rw [List.getElem?_append_right (by rw [List.length_drop]; omega), List.length_drop, mod_lt2 (by omega) (by omega), List.getElem?_take_of_lt (by omega)]
    congr 1; omega
theorem ext_n {α : Type} {u v : List α} {n : Nat} (hu : u.length = n) (hv : v.length = n) (h : ∀ j, j < n → u[j]? = v[j]?) : u = v := by
  apply List.ext_getElem?
  intro j
  by_cases hj : j < n
  · exact h j hj
  · rw [List.getElem?_eq_none_iff.mpr (by omega), List.getElem?_eq_none_iff.mpr (by omega)]
theorem rtl_rtl {α : Type} {w : List α} {t i : Nat} (ht : t ≤ w.length) (hi : i ≤ w.length) (h0 : 0 < w.length) : rtl (rtl w t) i = rtl w ((t + i) % w.length) := by
  apply ext_n (n := w.length) (by rw [rtl_len, rtl_len]) (rtl_len _ _)
  intro j hj
  rw [rtl_get (by rw [rtl_len]; exact hi) (by rw [rtl_len]; exact hj), rtl_len, rtl_get ht (Nat.mod_lt _ h0), rtl_get (Nat.le_of_lt (Nat.mod_lt _ h0)) hj]
  congr 1
  rw [Nat.add_mod_mod, Nat.mod_add_mod]
  congr 1; omega
theorem even_mod {a n : Nat} (ha : a % 2 = 0) (hn : n % 2 = 0) : a % n % 2 = 0 := by
  have h := Nat.mod_add_div a n
  have h2 : n * (a / n) % 2 = 0 := by rw [Nat.mul_mod, hn]; simp
  omega
def Vl (f : Nat → Int32) (w : List Nat) : Prop := ∀ i, i < w.length → f i = nI (w.getD i 0)
def sbn (w : List Nat) : Prop := ∀ n ∈ w, n < 2000000
theorem sbn_get {w : List Nat} (h : sbn w) (i : Nat) : w.getD i 0 < 2000000 := by
  rw [List.getD_eq_getElem?_getD]
  cases e : w[i]? with
  | none => decide
  | some v => exact h v (List.mem_of_getElem? e)
def tb (w : List Nat) (x : Nat) : Nat → Nat → List Nat
  | 0, _ => []
  | m + 1, i => w.getD ((x + i) % w.length) 0 :: tb w x m (i + 1)
theorem tb_len (w : List Nat) (x : Nat) : ∀ (m i : Nat), (tb w x m i).length = m
  | 0, _ => rfl
  | m + 1, i => by rw [tb, List.length_cons, tb_len w x m]
theorem tb_get (w : List Nat) (x : Nat) : ∀ (m i j : Nat), j < m → (tb w x m i)[j]? = some (w.getD ((x + i + j) % w.length) 0)
  | 0, _, _, h => absurd h (Nat.not_lt_zero _)
  | m + 1, i, 0, _ => by rw [tb]; rfl
  | m + 1, i, j + 1, h => by
    rw [tb, List.getElem?_cons_succ, tb_get w x m (i + 1) j (by omega), show x + (i + 1) + j = x + i + (j + 1) by omega]
theorem getD_of {w : List Nat} {i : Nat} (h : i < w.length) : w[i]? = some (w.getD i 0) := by
  rw [List.getD_eq_getElem?_getD, List.getElem?_eq_getElem h]; rfl
theorem tb_rtl {w : List Nat} {x : Nat} (h : x ≤ w.length) : tb w x w.length 0 = rtl w x := by
  apply ext_n (n := w.length) (tb_len _ _ _ _) (rtl_len _ _)
  intro j hj
  rw [tb_get w x _ 0 j hj, rtl_get h hj, getD_of (Nat.mod_lt _ (by omega))]
  rfl
theorem less_lex {f : Nat → Int32} {w : List Nat} (hv : Vl f w) (hb : sbn w) (x y : Nat) (h0 : 0 < w.length) : ∀ (m i : Nat), lessF f x y w.length m i = true ↔ tb w x m i < tb w y m i
  | 0, i => by
    rw [lessF, tb, tb]
    exact ⟨fun h => absurd h (by decide), fun h => absurd h (List.not_lt_nil _)⟩
  | m + 1, i => by
    have a1 := sbn_get hb ((x + i) % w.length)
    have a2 := sbn_get hb ((y + i) % w.length)
    rw [lessF, tb, tb, List.cons_lt_cons_iff, hv _ (Nat.mod_lt _ h0), hv _ (Nat.mod_lt _ h0)]
    by_cases e : w.getD ((x + i) % w.length) 0 = w.getD ((y + i) % w.length) 0
    · rw [if_pos (by rw [e]), less_lex hv hb x y h0 m (i + 1)]
      constructor
      · intro h; exact Or.inr ⟨e, h⟩
      · intro h; rcases h with h | h
        · omega
        · exact h.2
    · rw [if_neg (fun z => e ((nI_eq (by omega) (by omega)).mp z)), decide_eq_true_iff, nI_ltI (by omega) (by omega)]
      constructor
      · intro h; exact Or.inl h
      · intro h; rcases h with h | h
        · exact h
        · exact absurd h.1 e
theorem less_rtl {f : Nat → Int32} {w : List Nat} (hv : Vl f w) (hb : sbn w) {x y : Nat} (h0 : 0 < w.length) (hx : x ≤ w.length) (hy : y ≤ w.length) : lessF f x y w.length w.length 0 = true ↔ rtl w x < rtl w y := by
  rw [less_lex hv hb x y h0, tb_rtl hx, tb_rtl hy]
/-- t is a least beginning of w among those below x -/
def Lst (w : List Nat) (x t : Nat) : Prop := t % 2 = 0 ∧ t < w.length ∧ ∀ y, y % 2 = 0 → y < x → y < w.length → ¬ rtl w y < rtl w t
theorem Lst.next {w : List Nat} {x t : Nat} (h : Lst w x t) (hx : x % 2 = 0) (hl : x < w.length) : Lst w (x + 2) (if rtl w x < rtl w t then x else t) := by
  obtain ⟨h1, h2, h3⟩ := h
  by_cases c : rtl w x < rtl w t
  · rw [if_pos c]
    refine ⟨hx, hl, fun y y1 y2 y3 k => ?_⟩
    by_cases e : y < x
    · exact h3 y y1 e y3 (List.lt_trans k c)
    · have : y = x := by omega
      subst this
      exact List.lt_irrefl _ k
  · rw [if_neg c]
    refine ⟨h1, h2, fun y y1 y2 y3 k => ?_⟩
    by_cases e : y < x
    · exact h3 y y1 e y3 k
    · have : y = x := by omega
      subst this
      exact c k
theorem Lst.zero {w : List Nat} (h : 0 < w.length) : Lst w 0 0 := ⟨rfl, h, fun y _ y2 => absurd y2 (Nat.not_lt_zero _)⟩
theorem Lst.two {w : List Nat} (h : 0 < w.length) : Lst w 2 0 := by
  refine ⟨rfl, h, fun y y1 y2 _ k => ?_⟩
  have : y = 0 := by omega
  subst this
  exact List.lt_irrefl _ k
/-- turned to a least beginning, a row is below all its turnings -/
theorem Lst.le {w : List Nat} {t : Nat} (h : Lst w w.length t) (hw : w.length % 2 = 0) : ∀ i, i % 2 = 0 → i < (rtl w t).length → rtl w t ≤ (rtl w t).drop i ++ (rtl w t).take i := by
  obtain ⟨h1, h2, h3⟩ := h
  intro i i1 i2
  rw [rtl_len] at i2
  have e : (rtl w t).drop i ++ (rtl w t).take i = rtl w ((t + i) % w.length) := rtl_rtl (by omega) (by omega) (by omega)
  rw [e]
  exact h3 _ (even_mod (by omega) hw) (Nat.mod_lt _ (by omega)) (Nat.mod_lt _ (by omega))
theorem Lst.big {w : List Nat} {x t : Nat} (h : Lst w x t) (hx : w.length ≤ x) : Lst w w.length t := ⟨h.1, h.2.1, fun y y1 y2 _ => h.2.2 y y1 (by omega) y2⟩
theorem least_go {k r : Nat} {w : List Nat} (hkr : k ≠ r) (hb : sbn w) (hn : w.length ≤ 40) : ∀ (m x t : Nat) (σ : Sg), Vl (σ.1 r) w → σ.1 k 4 = nI t → Lst w x t → x % 2 = 0 → w.length ≤ x + 2 * m → ∃ t', (leastS k r w.length m x σ).1 k 4 = nI t' ∧ Lst w w.length t'
  | 0, x, t, σ, hv, ht, hl, hx, hm => ⟨t, by rw [leastS]; exact ht, hl.big (by omega)⟩
  | m + 1, x, t, σ, hv, ht, hl, hx, hm => by
    rw [leastS]
    by_cases c : x < w.length
    · rw [if_pos c, ht, nI_clamp (by have := hl.2.1; omega)]
      have e := less_rtl hv hb (x := x) (y := t) (by omega) (by omega) (by have := hl.2.1; omega)
      have nx := hl.next hx c
      by_cases q : rtl w x < rtl w t
      · rw [if_pos q] at nx
        rw [if_pos (e.mpr q)]
        exact least_go hkr hb hn m (x + 2) x _ (fun i hi => by dsimp only; rw [u2_k hkr.symm]; exact hv i hi) (u2_eq _ _ _ _) nx (by omega) (by omega)
      · rw [if_neg q] at nx
        rw [if_neg (fun z => q (e.mp z))]
        exact least_go hkr hb hn m (x + 2) t σ hv ht nx (by omega) (by omega)
    · rw [if_neg c]
      exact ⟨t, ht, hl.big (by omega)⟩
/-! Words: turned, they are carried over; those that begin with R and end with L. -/
theorem cj_tw (u v : List Bool) : cjb (mw v) (mw (u ++ v)) (mw (v ++ u)) := by
  refine ⟨mdt_w v, ?_⟩
  rw [← mw_app, ← mw_app, List.append_assoc]
theorem ex_all : ∀ (n : Nat) (u : List Bool), u.length ≤ n → u ≠ [] → ∃ x ws, u = ex x ws ∧ rpos ws ∧ ws ≠ [] := by
  intro n
  induction n with
  | zero => intro u h h0; exact absurd (List.length_eq_zero_iff.mp (by omega)) h0
  | succ n ih =>
    intro u h h0
    obtain ⟨x, m, v, e, hm, hv⟩ := run_ex u h0
    by_cases v0 : v = []
    · refine ⟨x, [m], ?_, fun k hk => ?_, by simp⟩
      · rw [e, v0]; rfl
      · rw [List.mem_singleton.mp hk]; exact hm
    · have hl : v.length ≤ n := by
        rw [e, List.length_append, List.length_replicate] at h; omega
      obtain ⟨y, ws, e2, p2, n2⟩ := ih v hl v0
      have hy : y = !x := by
        rw [e2, ex_hd1 p2 n2] at hv
        cases x <;> cases y <;> simp at hv ⊢
      refine ⟨x, m :: ws, ?_, fun k hk => ?_, by simp⟩
      · rw [e, e2, hy]; rfl
      · rcases List.mem_cons.mp hk with q | q
        · rw [q]; exact hm
        · exact p2 k q
theorem ex_ne {x : Bool} {ws : List Nat} (hp : rpos ws) (h0 : ws ≠ []) : ex x ws ≠ [] := fun z => by
  have := ex_hd1 (x := x) hp h0
  rw [z] at this
  simp at this
theorem ex_lst : ∀ (ws : List Nat) (x : Bool), rpos ws → ws ≠ [] → (ex x ws).getLast? = some (if ws.length % 2 = 1 then x else !x)
  | [], _, _, h => absurd rfl h
  | [n], x, hp, _ => by
    have := rep_last (rpos_c hp).1 x []
    rw [List.nil_append] at this
    rw [ex, ex, List.append_nil, this]; rfl
  | n :: m :: ws, x, hp, _ => by
    have ih := ex_lst (m :: ws) (!x) (rpos_c hp).2 (by simp)
    rw [ex, last_app (ex_ne (rpos_c hp).2 (by simp)), ih]
    simp only [List.length_cons, Bool.not_not]
    by_cases c : (ws.length + 1) % 2 = 1
    · rw [if_pos c, if_neg (by omega)]
    · rw [if_neg c, if_pos (by omega)]
theorem wd_tf {u : List Bool} (h1 : u.head? = some true) (h2 : u.getLast? = some false) : ∃ ws, u = ex true ws ∧ ws.length % 2 = 0 ∧ rpos ws ∧ ws ≠ [] := by
  have h0 : u ≠ [] := fun z => by rw [z] at h1; simp at h1
  obtain ⟨x, ws, e, hp, hn⟩ := ex_all u.length u (Nat.le_refl _) h0
  have hx : x = true := by
    rw [e, ex_hd1 hp hn] at h1
    exact Option.some.inj h1
  subst hx
  refine ⟨ws, e, ?_, hp, hn⟩
  rw [e, ex_lst ws true hp hn] at h2
  by_cases c : ws.length % 2 = 1
  · rw [if_pos c] at h2; simp at h2
  · omega
theorem ex_rtl {ws : List Nat} (hw : ws.length % 2 = 0) {t : Nat} (ht : t % 2 = 0) (hl : t ≤ ws.length) : ∃ u v, ex true ws = u ++ v ∧ ex true (rtl ws t) = v ++ u ∧ u = ex true (ws.take t) ∧ v = ex true (ws.drop t) := by
  refine ⟨ex true (ws.take t), ex true (ws.drop t), ?_, ?_, rfl, rfl⟩
  · rw [← ex_ev _ _ (by rw [List.length_take]; omega), List.take_append_drop]
  · unfold rtl
    rw [ex_ev _ _ (by rw [List.length_drop]; omega)]
/-- a row whose product is alike to A, turned to its least beginning, is the wheel -/
theorem wh_mk {A C : Mx} {ws : List Nat} {t : Nat} (hw : ws.length % 2 = 0) (hp : rpos ws) (h0 : ws ≠ []) (hc : cjb C A (mw (ex true ws))) (hl : Lst ws ws.length t) : IsWh A (rtl ws t) := by
  obtain ⟨u, v, e1, e2, _, _⟩ := ex_rtl hw hl.1 (Nat.le_of_lt hl.2.1)
  refine ⟨by rw [rtl_len]; exact hw, fun z => ?_, rpos_rot hp t, hl.le hw, mm (mw v) C, ?_⟩
  · have := congrArg List.length z
    rw [rtl_len] at this
    exact h0 (List.length_eq_zero_iff.mp this)
  · rw [e1] at hc
    rw [e2]
    exact hc.trans (cj_tw u v)
theorem word_big {w : List Bool} (hb : true ∈ w ∧ false ∈ w) (ht : mtr (mw w) ≤ 2000000) : big (mw w) := by
  have nn := mw_nn w
  have h1 := mw_true hb.1
  have h2 := mw_false hb.2
  have hd := mdt_w w
  unfold mtr at ht
  unfold mdt at hd
  generalize mw w = A at *
  obtain ⟨a, b, c, d⟩ := A
  simp only at *
  have h3 : a * d ≤ 2000000 * 2000000 := Int.mul_le_mul (by omega) (by omega) (by omega) (by omega)
  have h4 := Int.mul_le_mul_of_nonneg_left h2 (show 0 ≤ b by omega)
  have h5 := Int.mul_le_mul_of_nonneg_right h1 (show 0 ≤ c by omega)
  unfold big sm
  simp only
  omega
theorem big_suf : ∀ (u v : List Bool), big (mw (u ++ v)) → big (mw v)
  | [], v, h => h
  | x :: u, v, h => by
    apply big_suf u v
    have k := mw_nn (u ++ v)
    cases x
    · rw [List.cons_append, mw_f] at h
      unfold big sm at *
      simp only at h
      omega
    · rw [List.cons_append, mw_t] at h
      unfold big sm at *
      simp only at h
      omega
theorem at_one {σ : Sg} {p : Nat} {A : Mx} (h : At σ p A) (hb : big A) : rX6_isOne p σ = true ↔ A = mo := by
  obtain ⟨h1, h2, h3, h4⟩ := h
  obtain ⟨b1, b2, b3, b4⟩ := hb
  unfold rX6_isOne
  rw [h1, h2, h3, h4]
  have r1 : rg (1 : Int) := ⟨by omega, by omega⟩
  have e1 : lI A.1 = 1 ↔ A.1 = 1 := lI_eq (sm_rg b1) r1
  have e4 : lI A.2.2.2 = 1 ↔ A.2.2.2 = 1 := lI_eq (sm_rg b4) r1
  have e2 := lI_eq0 (sm_rg b2)
  have e3 := lI_eq0 (sm_rg b3)
  constructor
  · intro q
    by_cases c1 : lI A.1 = 1
    · rw [if_pos c1] at q
      by_cases c2 : lI A.2.1 = 0
      · rw [if_pos c2] at q
        by_cases c3 : lI A.2.2.1 = 0
        · rw [if_pos c3] at q
          by_cases c4 : lI A.2.2.2 = 1
          · exact mx_ext (e1.mp c1) (e2.mp c2) (e3.mp c3) (e4.mp c4)
          · rw [if_neg c4] at q; cases q
        · rw [if_neg c3] at q; cases q
      · rw [if_neg c2] at q; cases q
    · rw [if_neg c1] at q; cases q
  · intro q
    subst q
    rw [if_pos (e1.mpr rfl), if_pos (e2.mpr rfl), if_pos (e3.mpr rfl), if_pos (e4.mpr rfl)]
theorem mw_one {w : List Bool} : mw w = mo ↔ w = [] := ⟨fun h => mw_inj (v := []) h, fun h => by rw [h]; rfl⟩
theorem lI_nI (n : Nat) : (lI (n : Int)).toInt32 = nI n := by
  unfold lI nI
  rw [Int64.toInt32_ofInt]
  rfl
