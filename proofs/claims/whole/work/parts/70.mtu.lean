/-! The reference's turns. -/
theorem gd_l {u v : List Nat} {i : Nat} (h : i < u.length) : (u ++ v).getD i 0 = u.getD i 0 := by
  rw [List.getD_eq_getElem?_getD, List.getD_eq_getElem?_getD, List.getElem?_append_left h]
theorem gd_r {u v : List Nat} (i : Nat) : (u ++ v).getD (u.length + i) 0 = v.getD i 0 := by
  rw [List.getD_eq_getElem?_getD, List.getD_eq_getElem?_getD, List.getElem?_append_right (by omega)]
  congr 2; omega
theorem gd_r' {u v : List Nat} {i j : Nat} (h : i = u.length + j) : (u ++ v).getD i 0 = v.getD j 0 := by rw [h, gd_r]
theorem snoc_ex {l : List Nat} (h : l ≠ []) : ∃ m a, l = m ++ [a] := ⟨l.dropLast, l.getLast h, (List.dropLast_concat_getLast h).symm⟩
theorem nI_lI {n : Nat} (h : n < 2 ^ 31) : (nI n).toInt64 = lI n := by rw [nI_l h, lN_lI]
theorem lc_0 (x : Bool) : lc x 0 = bI (!x) := rfl
theorem lc_1 (x : Bool) : lc x 1 = bI x := rfl
/-- what the first part of turns leaves: f runs left out at the beginning -/
def TuA (n : Nat) (σ : Sg) (ah f : Nat) (ws : List Nat) : Prop := (tuA n σ).1 = lI ah ∧ (tuA n σ).2.1 = f ∧ f ≤ 2 ∧ (tuA n σ).2.2.1 159 19 = nI (ws.length + f) ∧ (∀ i, i < ws.length → (tuA n σ).2.2.1 166 (f + i) = nI (ws.getD i 0)) ∧ (tuA n σ).2.2.2 = σ.2
theorem tuA_ok {σ : Sg} {x : Bool} {rs : List Nat} (hs : Spelt σ x rs) (hp : rpos rs) (h2 : 2 ≤ rs.length) (hb : ∀ r ∈ rs, r < 2 ^ 30) : ∃ ah f ws, Mrg x rs ah ws ∧ TuA rs.length σ ah f ws := by
  obtain ⟨s1, s2, s3⟩ := hs
  have k0 := s3 0 (by omega)
  have k1 := s3 1 (by omega)
  have kl := s3 (rs.length - 1) (by omega)
  rw [lc_0] at k0
  rw [lc_1] at k1
  by_cases ho : rs.length % 2 = 1
  · have c1 : σ.1 167 0 = σ.1 167 (rs.length - 1) := by
      rw [k0, kl]; unfold lc; rw [if_pos (by omega)]
    cases x with
    | true =>
      obtain ⟨r0, t1, e1⟩ : ∃ r0 t1, rs = r0 :: t1 := by
        cases rs with
        | nil => simp at h2
        | cons a b => exact ⟨a, b, rfl⟩
      obtain ⟨r1, t2, e2⟩ : ∃ r1 t2, t1 = r1 :: t2 := by
        cases t1 with
        | nil => rw [e1] at h2; simp at h2
        | cons a b => exact ⟨a, b, rfl⟩
      have t20 : t2 ≠ [] := fun z => by rw [e1, e2, z] at ho; simp at ho
      obtain ⟨md, rl, e3⟩ := snoc_ex t20
      subst e3 e2 e1
      have hl : (r0 :: r1 :: (md ++ [rl])).length = md.length + 3 := by simp
      rw [hl] at h2 s1 ho c1 kl ⊢
      have v0 := s2 0 (by rw [hl]; omega)
      have v1 := s2 1 (by rw [hl]; omega)
      have vl := s2 (md.length + 2) (by rw [hl]; omega)
      have eL : (r0 :: r1 :: (md ++ [rl])).getD (md.length + 2) 0 = rl := by
        show (md ++ [rl]).getD md.length 0 = rl
        rw [gd_r' (j := 0) (by omega)]; rfl
      rw [eL] at vl
      have v0' : σ.1 166 0 = nI r0 := v0
      have v1' : σ.1 166 1 = nI r1 := v1
      have n1 : md.length + 3 - 1 = md.length + 2 := by omega
      have c2 : (u2 σ.1 166 (md.length + 3 - 1) (σ.1 166 (md.length + 3 - 1) + σ.1 166 0)) 167 1 = 1 := by
        rw [u2_k (by decide), k1]; rfl
      have b0 := hb r0 (by simp)
      have b1 := hb r1 (by simp)
      refine ⟨r0 + r1, 2, md ++ [rl + r0, r1], mrg_3 hp (by omega), ?_⟩
      unfold TuA tuA
      rw [if_pos c1, if_pos c2, n1]
      dsimp only
      refine ⟨?_, rfl, Nat.le_refl _, ?_, fun i hi => ?_, rfl⟩
      · rw [u2_j (by omega), v0', v1', nI_lI (by omega), nI_lI (by omega), lI_add]
        congr 1
      · rw [u2_eq, u2_k (by decide), u2_k (by decide), u2_k (by decide), s1, nI_1]
        congr 1
        simp
      · simp only [List.length_append, List.length_cons, List.length_nil] at hi
        rw [u2_k (by decide), u2_k (by decide)]
        by_cases q1 : i < md.length
        · rw [u2_j (by omega), u2_j (by omega), s2 (2 + i) (by rw [hl]; omega), gd_l q1]
          congr 1
          rw [show 2 + i = i + 2 by omega]
          show (md ++ [rl]).getD i 0 = _
          rw [gd_l q1]
        · by_cases q2 : i = md.length
          · rw [u2_j (by omega), show 2 + i = md.length + 2 by omega, u2_eq, vl, v0', nI_add, gd_r' (j := 0) (by omega)]
            rfl
          · rw [show 2 + i = md.length + 3 by omega, u2_eq, u2_j (by omega), v1', gd_r' (j := 1) (by omega)]
            rfl
    | false =>
      obtain ⟨r0, t1, e1⟩ : ∃ r0 t1, rs = r0 :: t1 := by
        cases rs with
        | nil => simp at h2
        | cons a b => exact ⟨a, b, rfl⟩
      have t10 : t1 ≠ [] := fun z => by rw [e1, z] at h2; simp at h2
      obtain ⟨md, rl, e3⟩ := snoc_ex t10
      subst e3 e1
      have hl : (r0 :: (md ++ [rl])).length = md.length + 2 := by simp
      rw [hl] at h2 s1 ho c1 kl ⊢
      have v0 := s2 0 (by rw [hl]; omega)
      have vl := s2 (md.length + 1) (by rw [hl]; omega)
      have eL : (r0 :: (md ++ [rl])).getD (md.length + 1) 0 = rl := by
        show (md ++ [rl]).getD md.length 0 = rl
        rw [gd_r' (j := 0) (by omega)]; rfl
      rw [eL] at vl
      have v0' : σ.1 166 0 = nI r0 := v0
      have n1 : md.length + 2 - 1 = md.length + 1 := by omega
      have c2 : ¬ (u2 σ.1 166 (md.length + 2 - 1) (σ.1 166 (md.length + 2 - 1) + σ.1 166 0)) 167 1 = 1 := by
        rw [u2_k (by decide), k1]; decide
      have b0 := hb r0 (by simp)
      refine ⟨r0, 1, md ++ [rl + r0], mrg_4 hp (by omega), ?_⟩
      unfold TuA tuA
      rw [if_pos c1, if_neg c2, n1]
      dsimp only
      refine ⟨?_, rfl, by omega, ?_, fun i hi => ?_, rfl⟩
      · rw [v0', nI_lI (by omega)]
      · rw [u2_k (by decide), s1]
        congr 1
        simp
      · simp only [List.length_append, List.length_cons, List.length_nil] at hi
        by_cases q1 : i < md.length
        · rw [u2_j (by omega), s2 (1 + i) (by rw [hl]; omega), gd_l q1]
          congr 1
          rw [show 1 + i = i + 1 by omega]
          show (md ++ [rl]).getD i 0 = _
          rw [gd_l q1]
        · rw [show 1 + i = md.length + 1 by omega, u2_eq, vl, v0', nI_add, gd_r' (j := 0) (by omega)]
          rfl
  · have c1 : ¬ σ.1 167 0 = σ.1 167 (rs.length - 1) := by
      rw [k0, kl]; unfold lc; rw [if_neg (by omega)]
      cases x <;> decide
    cases x with
    | true =>
      have c2 : ¬ σ.1 167 0 = 1 := by rw [k0]; decide
      refine ⟨0, 0, rs, mrg_1 hp (fun z => by rw [z] at h2; simp at h2) (by omega), ?_⟩
      unfold TuA tuA
      rw [if_neg c1, if_neg c2]
      dsimp only
      refine ⟨rfl, rfl, by omega, s1, fun i hi => ?_, rfl⟩
      rw [Nat.zero_add]; exact s2 i hi
    | false =>
      have c2 : σ.1 167 0 = 1 := by rw [k0]; rfl
      obtain ⟨r0, t1, e1⟩ : ∃ r0 t1, rs = r0 :: t1 := by
        cases rs with
        | nil => simp at h2
        | cons a b => exact ⟨a, b, rfl⟩
      subst e1
      have hl : (r0 :: t1).length = t1.length + 1 := by simp
      rw [hl] at h2 s1 ho c1 kl ⊢
      have v0 := s2 0 (by rw [hl]; omega)
      have v0' : σ.1 166 0 = nI r0 := v0
      have b0 := hb r0 (by simp)
      refine ⟨r0, 1, t1 ++ [r0], mrg_2 hp (by rw [hl]; omega), ?_⟩
      unfold TuA tuA
      rw [if_neg c1, if_pos c2]
      dsimp only
      refine ⟨?_, rfl, by omega, ?_, fun i hi => ?_, rfl⟩
      · rw [v0', nI_lI (by omega), lI_0, lI_add]
        congr 1
        omega
      · rw [u2_eq, u2_k (by decide), u2_k (by decide), s1, nI_1]
        congr 1
        simp
      · simp only [List.length_append, List.length_cons, List.length_nil] at hi
        rw [u2_k (by decide), u2_k (by decide)]
        by_cases q1 : i < t1.length
        · rw [u2_j (by omega), s2 (1 + i) (by rw [hl]; omega), gd_l q1]
          congr 1
          rw [show 1 + i = i + 1 by omega]
          rfl
        · rw [show 1 + i = t1.length + 1 by omega, u2_eq, v0', gd_r' (j := 0) (by omega)]
          rfl
theorem take_sum {w : List Nat} {k : Nat} (h : k < w.length) : (w.take (k + 1)).sum = (w.take k).sum + w.getD k 0 := by
  rw [List.take_add_one, getD_of h, List.sum_append]
  simp
theorem tu1_ok {f : Nat} {ws : List Nat} (hb : sbn ws) : ∀ (m k : Nat) (σ : Sg), k + m = ws.length → (∀ i, i < ws.length → σ.1 166 (f + i) = nI (ws.getD i 0)) → (∀ i, i < k → σ.1 168 i = nI (ws.getD i 0)) → σ.2 159 21 = lI ((ws.take k).sum : Nat) → Vl ((tu1 f m k σ).1 168) ws ∧ (tu1 f m k σ).2 159 21 = lI (ws.sum : Nat) ∧ (∀ a j, a ≠ 168 → (tu1 f m k σ).1 a j = σ.1 a j) ∧ ∀ a j, ¬ (a = 159 ∧ j = 21) → (tu1 f m k σ).2 a j = σ.2 a j
  | 0, k, σ, hk, h1, h2, h3 => by
    rw [tu1]
    refine ⟨fun i hi => h2 i (by omega), ?_, fun _ _ _ => rfl, fun _ _ _ => rfl⟩
    rw [h3, List.take_of_length_le (by omega)]
  | m + 1, k, σ, hk, h1, h2, h3 => by
    rw [tu1]
    have b := sbn_get hb k
    have e1 : ∀ a j, a ≠ 168 → (tu1s f k σ).1 a j = σ.1 a j := fun a j ha => u2_k ha
    have e2 : ∀ a j, ¬ (a = 159 ∧ j = 21) → (tu1s f k σ).2 a j = σ.2 a j := fun a j ha => if_neg ha
    obtain ⟨g1, g2, g3, g4⟩ := tu1_ok hb m (k + 1) (tu1s f k σ) (by omega) (fun i hi => by rw [e1 _ _ (by decide)]; exact h1 i hi) (fun i hi => by
      by_cases c : i = k
      · subst c
        unfold tu1s
        dsimp only
        rw [u2_eq, h1 i (by omega)]
      · unfold tu1s
        dsimp only
        rw [u2_j c]
        exact h2 i (by omega)) (by
      unfold tu1s
      dsimp only
      rw [u2_eq, u2_eq, h1 k (by omega), h3, nI_lI (by omega), lI_add, take_sum (by omega)]
      congr 1)
    exact ⟨g1, g2, fun a j ha => (g3 a j ha).trans (e1 a j ha), fun a j ha => (g4 a j ha).trans (e2 a j ha)⟩
theorem like_go {f : Nat → Int32} {x n : Nat} : ∀ (m i : Nat) (q : Bool), i + m = n → (likeF f x n m i q = true ↔ q = true ∧ ∀ j, i ≤ j → j < n → f ((x + j) % n) = f j)
  | 0, i, q, h => by
    rw [likeF]
    exact ⟨fun z => ⟨z, fun j h1 h2 => by omega⟩, fun z => z.1⟩
  | m + 1, i, q, h => by
    rw [likeF]
    by_cases c : q = true
    · rw [if_pos c, like_go m (i + 1) _ (by omega), decide_eq_true_iff]
      constructor
      · intro z
        refine ⟨c, fun j h1 h2 => ?_⟩
        by_cases e : j = i
        · rw [e]; exact z.1
        · exact z.2 j (by omega) h2
      · intro z
        exact ⟨z.2 i (Nat.le_refl _) (by omega), fun j h1 h2 => z.2 j (by omega) h2⟩
    · rw [if_neg c]
      exact ⟨fun z => absurd z (by decide), fun z => absurd z.1 c⟩
theorem like_rtl {f : Nat → Int32} {w : List Nat} (hv : Vl f w) (hb : sbn w) {x : Nat} (hx : x ≤ w.length) : likeF f x w.length w.length 0 true = true ↔ rtl w x = w := by
  rw [like_go _ _ _ (Nat.zero_add _)]
  constructor
  · intro z
    apply ext_n (n := w.length) (rtl_len _ _) rfl
    intro j hj
    have h0 : (x + j) % w.length < w.length := Nat.mod_lt _ (by omega)
    have := z.2 j (Nat.zero_le _) hj
    rw [hv _ h0, hv _ hj] at this
    have a1 := sbn_get hb ((x + j) % w.length)
    have a2 := sbn_get hb j
    rw [rtl_get hx hj, getD_of h0, getD_of hj, (nI_eq (by omega) (by omega)).mp this]
  · intro z
    refine ⟨rfl, fun j _ hj => ?_⟩
    have h0 : (x + j) % w.length < w.length := Nat.mod_lt _ (by omega)
    rw [hv _ h0, hv _ hj]
    congr 1
    have e := rtl_get hx hj
    rw [z, getD_of h0, getD_of hj] at e
    exact (Option.some.inj e).symm
/-- how many turnings by an even number of runs leave the row -/
def tmC (w : List Nat) : Nat → Nat → Nat
  | 0, _ => 0
  | m + 1, k => if k < w.length then (if rtl w k = w then 1 else 0) + tmC w m (k + 2) else 0
theorem tmC_le (w : List Nat) : ∀ (m k : Nat), tmC w m k ≤ (w.length - k + 1) / 2
  | 0, k => Nat.zero_le _
  | m + 1, k => by
    rw [tmC]
    have := tmC_le w m (k + 2)
    split
    · split <;> omega
    · omega
def TM (w : List Nat) : Nat := tmC w 32 0
theorem TM_pos {w : List Nat} (h : 0 < w.length) : 1 ≤ TM w := by
  unfold TM
  rw [show 32 = 31 + 1 from rfl, tmC, if_pos h, if_pos (rtl_0 w)]
  omega
theorem tu2_ok {ws : List Nat} (hb : sbn ws) : ∀ (m k t : Nat) (σ : Sg), Vl (σ.1 168) ws → Lst ws k t → k % 2 = 0 → ws.length ≤ k + 2 * m → Lst ws ws.length (tu2 ws.length m k t σ).1 ∧ (tu2 ws.length m k t σ).2.1 159 20 = σ.1 159 20 + nI (tmC ws m k) ∧ (tu2 ws.length m k t σ).2.2 = σ.2 ∧ ∀ a j, ¬ (a = 159 ∧ j = 20) → (tu2 ws.length m k t σ).2.1 a j = σ.1 a j
  | 0, k, t, σ, hv, hl, hk, hm => by
    rw [tu2, tmC]
    refine ⟨hl.big (by omega), ?_, rfl, fun _ _ _ => rfl⟩
    rw [nI_0, Int32.add_zero]
  | m + 1, k, t, σ, hv, hl, hk, hm => by
    rw [tu2, tmC]
    by_cases c : k < ws.length
    · rw [if_pos c, if_pos c]
      have e := less_rtl hv hb (x := k) (y := t) (by omega) (by omega) (by have := hl.2.1; omega)
      have nx := hl.next hk c
      have ee : (if lessF (σ.1 168) k t ws.length ws.length 0 = true then k else t) = (if rtl ws k < rtl ws t then k else t) := by
        by_cases q : rtl ws k < rtl ws t
        · rw [if_pos q, if_pos (e.mpr q)]
        · rw [if_neg q, if_neg (fun z => q (e.mp z))]
      rw [ee]
      have lk := like_rtl hv hb (x := k) (by omega)
      obtain ⟨g1, g2, g3, g4⟩ := tu2_ok hb m (k + 2) (if rtl ws k < rtl ws t then k else t) (u2 σ.1 159 20 (σ.1 159 20 + bI (likeF (σ.1 168) k ws.length ws.length 0 true)), σ.2) (fun i hi => by dsimp only; rw [u2_k (by decide)]; exact hv i hi) nx (by omega) (by omega)
      refine ⟨g1, ?_, g3, fun a j ha => (g4 a j ha).trans (if_neg ha)⟩
      rw [g2]
      dsimp only
      rw [u2_eq, Int32.add_assoc]
      congr 1
      by_cases q : rtl ws k = ws
      · rw [lk.mpr q, if_pos q, ← nI_add]; rfl
      · rw [if_neg q, Nat.zero_add]
        have : likeF (σ.1 168) k ws.length ws.length 0 true = false := by
          cases h : likeF (σ.1 168) k ws.length ws.length 0 true with
          | false => rfl
          | true => exact absurd (lk.mp h) q
        rw [this]
        exact Int32.zero_add _
    · rw [if_neg c, if_neg c]
      refine ⟨hl.big (by omega), ?_, rfl, fun _ _ _ => rfl⟩
      rw [nI_0, Int32.add_zero]
theorem tu3_ok {f : Nat → Int32} {ws : List Nat} (hv : Vl f ws) (hb : sbn ws) : ∀ (t : Nat), t ≤ ws.length → tu3 f t = lI ((ws.take t).sum : Nat)
  | 0, _ => rfl
  | t + 1, h => by
    have b := sbn_get hb t
    rw [tu3, tu3_ok hv hb t (by omega), hv t (by omega), nI_lI (by omega), lI_add, take_sum (by omega)]
    congr 1
theorem tu4_ok {t n : Nat} : ∀ (m k : Nat) (σ : Sg), k + m = n → (∀ i, (tu4 t n m k σ).1 166 i = if k ≤ i ∧ i < n then σ.1 168 ((t + i) % n) else σ.1 166 i) ∧ (∀ a j, a ≠ 166 → (tu4 t n m k σ).1 a j = σ.1 a j) ∧ (tu4 t n m k σ).2 = σ.2
  | 0, k, σ, h => by
    rw [tu4]
    refine ⟨fun i => ?_, fun _ _ _ => rfl, rfl⟩
    rw [if_neg (by omega)]
  | m + 1, k, σ, h => by
    rw [tu4]
    obtain ⟨g1, g2, g3⟩ := tu4_ok (t := t) (n := n) m (k + 1) (u2 σ.1 166 k (σ.1 168 ((t + k) % n)), σ.2) (by omega)
    refine ⟨fun i => ?_, fun a j ha => (g2 a j ha).trans (u2_k ha), g3⟩
    rw [g1]
    dsimp only
    by_cases c : i = k
    · subst c
      rw [if_neg (by omega), if_pos (by omega), u2_eq]
    · rw [u2_j c, u2_k (by decide)]
      by_cases c2 : k ≤ i ∧ i < n
      · rw [if_pos c2, if_pos (by omega)]
      · rw [if_neg c2, if_neg (by omega)]
theorem beg_ok {x R : Int} (hx : sm x) (hR : sm R) (h0 : 0 < R) (hn : x ≤ 0) : (lI x - lI x / lI R * lI R + lI R) - (lI x - lI x / lI R * lI R + lI R) / lI R * lI R = lI (x % R) := by
  rw [lI_div (sm_rg hx) (sm_rg hR), lI_mul, lI_sub, lI_add]
  have hb := ed_bd (x := -x) h0
  have e0 : x.tdiv R = -((-x) / R) := by
    rw [← Int.tdiv_eq_ediv_of_nonneg (by omega), Int.neg_tdiv, Int.neg_neg]
  rw [e0]
  generalize hK : (-x) / R = K at *
  have e1 : -K * R = -(K * R) := Int.neg_mul _ _
  rw [e1]
  have y0 : 0 ≤ x - -(K * R) + R := by omega
  have y1 : x - -(K * R) + R ≤ R + R := by omega
  unfold sm at hx hR
  rw [lI_divp (by unfold rg; omega) (by unfold rg; omega) y0, lI_mul, lI_sub]
  congr 1
  have e2 : x % R = (x - -(K * R) + R) % R := by
    have : x - -(K * R) + R = x + (K + 1) * R := by grind
    rw [this, Int.add_mul_emod_self_right]
  rw [e2, Int.emod_def, Int.mul_comm R ((x - -(K * R) + R) / R)]
theorem sum_ge : ∀ (w : List Nat), rpos w → w.length ≤ w.sum
  | [], _ => Nat.le_refl _
  | n :: w, h => by
    have := sum_ge w (rpos_c h).2
    have h1 := (rpos_c h).1
    rw [List.sum_cons, List.length_cons]; omega
theorem sum_le : ∀ (w : List Nat), sbn w → w.sum ≤ 2000000 * w.length
  | [], _ => Nat.le_refl _
  | n :: w, h => by
    have := sum_le w (fun m hm => h m (List.mem_cons_of_mem _ hm))
    have h1 := h n List.mem_cons_self
    rw [List.sum_cons, List.length_cons]; omega
theorem take_le (w : List Nat) (t : Nat) : (w.take t).sum ≤ w.sum := by
  have := List.sum_append (l₁ := w.take t) (l₂ := w.drop t)
  rw [List.take_append_drop] at this
  omega
/-- how the reference's turns end -/
def Turned (τ : Sg) (ah t : Nat) (ws : List Nat) : Prop := τ.1 159 19 = nI ws.length ∧ Vl (τ.1 166) (rtl ws t) ∧ τ.1 159 20 = nI (TM ws) ∧ τ.2 159 21 = lI (ws.sum : Nat) ∧ τ.2 159 22 = lI ((-((ah + (ws.take t).sum : Nat) : Int)) % ((ws.sum / TM ws : Nat) : Int))
theorem tu_ok {σ : Sg} {n ah f : Nat} {ws : List Nat} (hA : TuA n σ ah f ws) (hp : rpos ws) (hb : sbn ws) (h0 : 0 < ws.length) (hn : ws.length ≤ 40) (ha : ah ≤ 100000000) : TuOk n σ ∧ ∃ t, Lst ws ws.length t ∧ Turned (sTu n σ) ah t ws := by
  obtain ⟨a1, a2, a3, a4, a5, a6⟩ := hA
  have eN : tuN n σ = ws.length := by
    unfold tuN; rw [a4, a2, pk_sub (by omega), nI_clamp (by omega)]; omega
  have e19 : (tuA n σ).2.2.1 159 19 - nI (tuA n σ).2.1 = nI (tuN n σ) := by
    rw [eN, a4, a2, pk_sub (by omega)]
    congr 1; omega
  have b19 : (tuB (tuA n σ).2.2 f).1 159 19 = nI ws.length := by
    unfold tuB; dsimp only; rw [u2_eq]; rw [a2, eN] at e19; exact e19
  obtain ⟨q1, q2, q3, q4⟩ := tu1_ok (f := f) hb ws.length 0 (tuB (tuA n σ).2.2 f) (by omega) (fun i hi => by
    unfold tuB; dsimp only; rw [u2_k (by decide)]; exact a5 i hi) (fun i hi => absurd hi (Nat.not_lt_zero _)) (by unfold tuB; dsimp only; rw [u2_eq]; rfl)
  generalize hρ : tu1 f ws.length 0 (tuB (tuA n σ).2.2 f) = ρ at *
  have hvρ : Vl ((tu182 ρ).1 168) ws := fun i hi => by unfold tu182; dsimp only; rw [u2_k (by decide)]; exact q1 i hi
  obtain ⟨w1, w2, w3, w4⟩ := tu2_ok hb 32 0 0 (tu182 ρ) hvρ (Lst.zero h0) rfl (by omega)
  generalize ht : (tu2 ws.length 32 0 0 (tu182 ρ)).1 = t at *
  generalize hμ : (tu2 ws.length 32 0 0 (tu182 ρ)).2 = μ at *
  have T1 := TM_pos h0
  have T2 : TM ws ≤ (ws.length - 0 + 1) / 2 := tmC_le ws 32 0
  have s1 := sum_ge ws hp
  have s2 := sum_le ws hb
  have m20 : μ.1 159 20 = nI (TM ws) := by
    rw [w2]
    have : (tu182 ρ).1 159 20 = 0 := by unfold tu182; dsimp only; rw [u2_eq]
    rw [this, Int32.zero_add]; rfl
  have m21 : μ.2 159 21 = lI (ws.sum : Nat) := by rw [w3]; exact q2
  have rnd : tuRound μ = lI ((ws.sum / TM ws : Nat) : Int) := by
    unfold tuRound
    rw [m20, m21, nI_lI (by omega), lI_divp (by unfold rg; omega) (by unfold rg; omega) (by omega)]
    rfl
  have rpos' : 1 ≤ ws.sum / TM ws := (Nat.le_div_iff_mul_le (by omega)).mpr (by omega)
  have rle : ws.sum / TM ws ≤ ws.sum := Nat.div_le_self _ _
  refine ⟨⟨e19, by rw [eN]; omega, by rw [a2]; exact a3, ?_⟩, t, w1, ?_⟩
  · rw [a2, eN, hρ]
    unfold TuH TuG
    rw [hμ, m20, nI_lI (by omega), rnd]
    refine ⟨fun z => ?_, fun z => ?_⟩
    · have := (lI_eq0 (by unfold rg; omega)).mp z
      omega
    · have := (lI_eq0 (by unfold rg; omega)).mp z
      omega
  · have e : sTu n σ = tuE (lI ah) t ws.length μ := by
      unfold sTu
      rw [a1, a2, eN, hρ]
      unfold tuF
      rw [ht, hμ]
    rw [e]
    unfold tuE
    have hv169 : Vl (μ.1 168) ws := fun i hi => by rw [w4 _ _ (by omega)]; exact hvρ i hi
    obtain ⟨g1, g2, g3⟩ := tu4_ok (t := t) (n := ws.length) ws.length 0 (μ.1, u2 μ.2 159 22 (tuBeg (lI ah) (tu3 (μ.1 168) t) μ)) (by omega)
    have tlt := w1.2.1
    have tk := take_le ws t
    refine ⟨?_, fun i hi => ?_, ?_, ?_, ?_⟩
    · rw [g2 _ _ (by decide)]
      dsimp only
      rw [w4 _ _ (by decide)]
      unfold tu182
      dsimp only
      rw [u2_j (by decide), q3 _ _ (by decide), b19]
    · rw [rtl_len] at hi
      rw [g1, if_pos (by omega)]
      dsimp only
      have h00 : (t + i) % ws.length < ws.length := Nat.mod_lt _ (by omega)
      rw [hv169 _ h00]
      congr 1
      have e3 := rtl_get (w := ws) (i := t) (j := i) (by omega) hi
      rw [getD_of h00, getD_of (by rw [rtl_len]; exact hi)] at e3
      exact (Option.some.inj e3).symm
    · rw [g2 _ _ (by decide)]; exact m20
    · rw [g3]
      dsimp only
      rw [u2_j (by decide)]; exact m21
    · rw [g3]
      dsimp only
      rw [u2_eq]
      unfold tuBeg tuX
      rw [tu3_ok hv169 hb t (by omega), rnd, lI_0, lI_sub, lI_sub]
      have ex : (0 : Int) - (ah : Int) - ((ws.take t).sum : Nat) = -((ah + (ws.take t).sum : Nat) : Int) := by omega
      rw [ex]
      exact beg_ok (by unfold sm; omega) (by unfold sm; omega) (by omega) (by omega)
