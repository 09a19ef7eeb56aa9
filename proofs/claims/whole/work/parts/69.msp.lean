/-! The reference spells a product. -/
theorem am_bR {σ : Sg} {A : Mx} (h : Am σ A) (hb : big A) : splRt σ = decide (A.2.2.1 ≤ A.1 ∧ A.2.2.2 ≤ A.2.1) := by
  obtain ⟨h1, h2, h3, h4⟩ := h
  obtain ⟨b1, b2, b3, b4⟩ := hb
  unfold splRt
  rw [h1, h2, h3, h4]
  have e1 := lI_lt (sm_rg b1) (sm_rg b3)
  have e2 := lI_lt (sm_rg b2) (sm_rg b4)
  by_cases c1 : A.1 < A.2.2.1
  · rw [if_pos (e1.mpr c1)]; symm; rw [decide_eq_false_iff_not]; omega
  · rw [if_neg (fun z => c1 (e1.mp z))]
    by_cases c2 : A.2.1 < A.2.2.2
    · rw [if_pos (e2.mpr c2)]; symm; rw [decide_eq_false_iff_not]; omega
    · rw [if_neg (fun z => c2 (e2.mp z))]; symm; rw [decide_eq_true_iff]; omega
theorem am_nR {σ : Sg} {n : Nat} {v : List Bool} (h : Am σ (mw (List.replicate n true ++ v))) (hb : big (mw (List.replicate n true ++ v))) (hv : v.head? ≠ some true) : nR σ = lI n := by
  obtain ⟨f1, f2, f3⟩ := fr_t (n := n) hv
  have nn := mw_nn (List.replicate n true ++ v)
  obtain ⟨h1, h2, h3, h4⟩ := h
  obtain ⟨b1, b2, b3, b4⟩ := hb
  generalize mw (List.replicate n true ++ v) = A at *
  unfold nR
  have hn : sm (n : Int) := by rw [← f1]; exact ed_sm b2 nn.2.1 f2
  rw [h1, h2, h3, h4, lI_divp (sm_rg b2) (sm_rg b4) nn.2.1, f1]
  rcases f3 with f3 | ⟨f3, f4⟩
  · rw [if_pos ((lI_eq0 (sm_rg b3)).mpr f3)]
  · rw [if_neg (fun z => by have := (lI_eq0 (sm_rg b3)).mp z; omega), if_neg (fun z => by have := (lI_eq0 (sm_rg b4)).mp z; omega), lI_divp (sm_rg b1) (sm_rg b3) (by omega)]
    have e := lI_lt (sm_rg (ed_sm b1 (by omega) f3)) (sm_rg hn)
    by_cases hh : A.1 / A.2.2.1 < (n : Int)
    · omega
    · rw [if_neg (fun z => hh (e.mp z))]
theorem am_nL {σ : Sg} {n : Nat} {v : List Bool} (h : Am σ (mw (List.replicate n false ++ v))) (hb : big (mw (List.replicate n false ++ v))) (hv : v.head? ≠ some false) : nL σ = lI n := by
  obtain ⟨f1, f2, f3⟩ := fr_f (n := n) hv
  have nn := mw_nn (List.replicate n false ++ v)
  obtain ⟨h1, h2, h3, h4⟩ := h
  obtain ⟨b1, b2, b3, b4⟩ := hb
  generalize mw (List.replicate n false ++ v) = A at *
  unfold nL
  have hn : sm (n : Int) := by rw [← f1]; exact ed_sm b3 nn.2.2.1 f2
  rw [h1, h2, h3, h4, if_neg (fun z => by have := (lI_eq0 (sm_rg b1)).mp z; omega), lI_divp (sm_rg b3) (sm_rg b1) nn.2.2.1, f1]
  rcases f3 with f3 | ⟨f3, f4⟩
  · rw [if_pos ((lI_eq0 (sm_rg b2)).mpr f3)]
  · rw [if_neg (fun z => by have := (lI_eq0 (sm_rg b2)).mp z; omega), lI_divp (sm_rg b4) (sm_rg b2) (by omega)]
    have e := lI_lt (sm_rg hn) (sm_rg (ed_sm b4 (by omega) f3))
    by_cases hh : (n : Int) < A.2.2.2 / A.2.1
    · rw [if_pos (e.mpr hh)]
    · rw [if_neg (fun z => hh (e.mp z)), show A.2.2.2 / A.2.1 = (n : Int) by omega]
theorem am_D {σ : Sg} {A : Mx} (h : Am σ A) (hb : big A) (hd : mdt A = 1) : splD σ = true ↔ A = mo := by
  obtain ⟨h1, h2, h3, h4⟩ := h
  obtain ⟨b1, b2, b3, b4⟩ := hb
  unfold splD
  rw [h1, h2, h3]
  have r1 : rg (1 : Int) := ⟨by omega, by omega⟩
  have e1 : lI A.1 = 1 ↔ A.1 = 1 := lI_eq (sm_rg b1) r1
  have e2 := lI_eq0 (sm_rg b2)
  have e3 := lI_eq0 (sm_rg b3)
  constructor
  · intro q
    by_cases c1 : lI A.1 = 1
    · rw [if_pos c1] at q
      by_cases c2 : lI A.2.1 = 0
      · rw [if_pos c2] at q
        by_cases c3 : lI A.2.2.1 = 0
        · have k1 := e1.mp c1
          have k2 := e2.mp c2
          have k3 := e3.mp c3
          refine mx_ext k1 k2 k3 ?_
          unfold mdt at hd
          rw [k1, k2] at hd
          show A.2.2.2 = 1
          omega
        · rw [if_neg c3] at q; cases q
      · rw [if_neg c2] at q; cases q
    · rw [if_neg c1] at q; cases q
  · intro q
    subst q
    rw [if_pos (e1.mpr rfl), if_pos (e2.mpr rfl), if_pos (e3.mpr rfl)]
/-- the letter of the i-th run -/
def lc (x : Bool) (i : Nat) : Int32 := bI (if i % 2 = 0 then !x else x)
theorem spE_at {f : Int32} {n : Int64} {σ τ : Sg} {j : Nat} (hj : j < 2 ^ 31) (hc : σ.1 159 19 = nI j) (ht : τ.1 = σ.1) : (spE f n σ τ).1 159 19 = nI (j + 1) ∧ (∀ i, (spE f n σ τ).1 166 i = if i = j then n.toInt32 else σ.1 166 i) ∧ ∀ i, (spE f n σ τ).1 167 i = if i = j then f else σ.1 167 i := by
  unfold spE
  dsimp only
  rw [hc, nI_clamp hj, ht]
  refine ⟨?_, fun i => ?_, fun i => ?_⟩
  · rw [u2_eq, u2_k (by decide), u2_k (by decide), hc, nI_1]
  · rw [u2_k (by decide), u2_k (by decide)]
    unfold u2
    by_cases c : i = j
    · rw [if_pos ⟨rfl, c⟩, if_pos c]
    · rw [if_neg (fun z => c z.2), if_neg c]
  · rw [u2_k (by decide)]
    unfold u2
    by_cases c : i = j
    · rw [if_pos ⟨rfl, c⟩, if_pos c]
    · rw [if_neg (fun z => c z.2), if_neg c, if_neg (fun z => absurd z.1 (by decide))]
/-- one run is spelt -/
theorem spl_st {σ : Sg} {x : Bool} {n j : Nat} {v : List Bool} (h : Am σ (mw (List.replicate n x ++ v))) (hb : big (mw (List.replicate n x ++ v))) (hn : 1 ≤ n) (hv : v.head? ≠ some x) (hj : j < 64) (hc : σ.1 159 19 = nI j) : SpG σ ∧ Am (splS σ) (mw v) ∧ (splS σ).1 159 19 = nI (j + 1) ∧ (∀ i, (splS σ).1 166 i = if i = j then nI n else σ.1 166 i) ∧ ∀ i, (splS σ).1 167 i = if i = j then bI (!x) else σ.1 167 i := by
  have nn := mw_nn (List.replicate n x ++ v)
  have hg : SpG σ := by
    obtain ⟨h1, h2, h3, h4⟩ := id h
    obtain ⟨b1, b2, b3, b4⟩ := id hb
    refine ⟨⟨by rw [hc]; exact nI_pos (by omega), by rw [hc, nI_clamp (by omega)]; exact hj⟩, fun _ _ z => ?_, fun _ z => ?_⟩
    · rw [h4] at z
      have := (lI_eq0 (sm_rg b4)).mp z
      omega
    · rw [h1] at z
      have := (lI_eq0 (sm_rg b1)).mp z
      omega
  refine ⟨hg, ?_⟩
  have hr := am_bR h hb
  unfold splS
  cases x
  · rw [bR_f hn] at hr
    rw [hr, if_neg (by decide), am_nL h hb hv]
    obtain ⟨q1, q2, q3⟩ := spE_at (f := 1) (n := lI n) (τ := sX11_takes (σ.2 159 11) (σ.2 159 12) (σ.2 159 13 - lI n * σ.2 159 11) (σ.2 159 14 - lI n * σ.2 159 12) σ) (show j < 2 ^ 31 by omega) hc rfl
    rw [lI_nI] at q2
    refine ⟨?_, q1, q2, q3⟩
    have am : Am (sX11_takes (σ.2 159 11) (σ.2 159 12) (σ.2 159 13 - lI n * σ.2 159 11) (σ.2 159 14 - lI n * σ.2 159 12) σ) (mw v) := by
      obtain ⟨h1, h2, h3, h4⟩ := h
      rw [mw_rep_f] at h1 h2 h3 h4
      simp only at h1 h2 h3 h4
      apply am_tk
      · exact h1
      · exact h2
      · rw [h1, h3, lI_mul, lI_sub]; congr 1; omega
      · rw [h2, h4, lI_mul, lI_sub]; congr 1; omega
    exact am
  · rw [bR_t hn] at hr
    rw [hr, if_pos rfl, am_nR h hb hv]
    obtain ⟨q1, q2, q3⟩ := spE_at (f := 0) (n := lI n) (τ := sX11_takes (σ.2 159 11 - lI n * σ.2 159 13) (σ.2 159 12 - lI n * σ.2 159 14) (σ.2 159 13) (σ.2 159 14) σ) (show j < 2 ^ 31 by omega) hc rfl
    rw [lI_nI] at q2
    refine ⟨?_, q1, q2, q3⟩
    have am : Am (sX11_takes (σ.2 159 11 - lI n * σ.2 159 13) (σ.2 159 12 - lI n * σ.2 159 14) (σ.2 159 13) (σ.2 159 14) σ) (mw v) := by
      obtain ⟨h1, h2, h3, h4⟩ := h
      rw [mw_rep_t] at h1 h2 h3 h4
      simp only at h1 h2 h3 h4
      apply am_tk
      · rw [h1, h3, lI_mul, lI_sub]; congr 1; omega
      · rw [h2, h4, lI_mul, lI_sub]; congr 1; omega
      · exact h3
      · exact h4
    exact am
theorem spl_go : ∀ (rs : List Nat) (x : Bool) (m j : Nat) (σ : Sg), rpos rs → Am σ (mw (ex x rs)) → big (mw (ex x rs)) → rs.length < m → j + rs.length ≤ 64 → σ.1 159 19 = nI j → ∃ τ, splF m σ = some τ ∧ τ.1 159 19 = nI (j + rs.length) ∧ (∀ i, i < j → τ.1 166 i = σ.1 166 i ∧ τ.1 167 i = σ.1 167 i) ∧ ∀ i, i < rs.length → τ.1 166 (j + i) = nI (rs.getD i 0) ∧ τ.1 167 (j + i) = lc x i := by
  intro rs
  induction rs with
  | nil =>
    intro x m j σ hp ha hb hm hj hc
    cases m with
    | zero => simp at hm
    | succ m =>
      refine ⟨σ, ?_, hc, fun _ _ => ⟨rfl, rfl⟩, fun i hi => absurd hi (Nat.not_lt_zero _)⟩
      rw [splF, if_pos ((am_D ha hb rfl).mpr rfl)]
  | cons n rs ih =>
    intro x m j σ hp ha hb hm hj hc
    obtain ⟨hn, hp'⟩ := rpos_c hp
    have hne : ex x (n :: rs) ≠ [] := ex_ne hp (by simp)
    simp only [List.length_cons] at hm hj
    cases m with
    | zero => simp at hm
    | succ m =>
      rw [splF, if_neg (fun z => hne (mw_one.mp ((am_D ha hb (mdt_w _)).mp z)))]
      rw [ex] at ha hb
      have hv : (ex (!x) rs).head? ≠ some x := by
        have := ex_hd (x := !x) hp'
        rwa [Bool.not_not] at this
      obtain ⟨g, a1, c1, k1, k2⟩ := spl_st ha hb hn hv (show j < 64 by omega) hc
      rw [if_pos g]
      obtain ⟨τ, t1, t2, t3, t4⟩ := ih (!x) m (j + 1) (splS σ) hp' a1 (big_suf _ _ hb) (by omega) (by omega) c1
      refine ⟨τ, t1, ?_, fun i hi => ?_, fun i hi => ?_⟩
      · rw [t2, List.length_cons, show j + 1 + rs.length = j + (rs.length + 1) by omega]
      · obtain ⟨u1, u3⟩ := t3 i (by omega)
        rw [u1, u3, k1, k2, if_neg (by omega), if_neg (by omega)]
        exact ⟨rfl, rfl⟩
      · cases i with
        | zero =>
          obtain ⟨u1, u3⟩ := t3 (j + 0) (by omega)
          rw [u1, u3, k1, k2, if_pos (by omega), if_pos (by omega)]
          exact ⟨rfl, rfl⟩
        | succ i =>
          obtain ⟨u1, u3⟩ := t4 i (by simp only [List.length_cons] at hi; omega)
          rw [show j + (i + 1) = j + 1 + i by omega, u1, u3]
          refine ⟨rfl, ?_⟩
          unfold lc
          by_cases c : i % 2 = 0
          · rw [if_pos c, if_neg (by omega), Bool.not_not]
          · rw [if_neg c, if_pos (by omega)]
/-- what is spelt -/
def Spelt (τ : Sg) (x : Bool) (rs : List Nat) : Prop := τ.1 159 19 = nI rs.length ∧ Vl (τ.1 166) rs ∧ ∀ i, i < rs.length → τ.1 167 i = lc x i
theorem spl_ok {σ : Sg} {x : Bool} {rs : List Nat} (hp : rpos rs) (ha : Am σ (mw (ex x rs))) (hb : big (mw (ex x rs))) (hl : rs.length ≤ 62) : SplOk σ ∧ Spelt (splT σ) x rs := by
  obtain ⟨τ, t1, t2, _, t4⟩ := spl_go rs x 64 0 (spl0 σ) hp ha hb (by omega) (by omega) (by unfold spl0; dsimp only; rw [u2_eq]; rfl)
  refine ⟨?_, ?_⟩
  · unfold SplOk; rw [t1]; rfl
  · unfold splT
    rw [t1]
    rw [Nat.zero_add] at t2
    refine ⟨t2, fun i hi => ?_, fun i hi => ?_⟩
    · have := (t4 i hi).1
      rwa [Nat.zero_add] at this
    · have := (t4 i hi).2
      rwa [Nat.zero_add] at this
/-! Runs merged at the ends. -/
theorem ex_ap (v : List Nat) : ∀ (u : List Nat) (x : Bool), ex x (u ++ v) = ex x u ++ ex (if u.length % 2 = 0 then x else !x) v
  | [], x => rfl
  | n :: u, x => by
    rw [List.cons_append, ex, ex, ex_ap v u (!x), List.append_assoc, List.length_cons]
    congr 3
    by_cases c : u.length % 2 = 0
    · rw [if_pos c, if_neg (by omega)]
    · rw [if_neg c, if_pos (by omega), Bool.not_not]
theorem rtl_app {α : Type} (u v : List α) : rtl (u ++ v) u.length = v ++ u := by unfold rtl; simp
theorem ex_1 (x : Bool) (n : Nat) : ex x [n] = List.replicate n x := by simp [ex]
theorem rep_len (n : Nat) (x : Bool) : (List.replicate n x).length = n := List.length_replicate
/-- the merged row, how many letters come ahead of it -/
def Mrg (x : Bool) (rs : List Nat) (ah : Nat) (ws : List Nat) : Prop := ws.length % 2 = 0 ∧ rpos ws ∧ ws ≠ [] ∧ ah ≤ (ex x rs).length ∧ rtl (ex x rs) ah = ex true ws ∧ rs.length ≤ ws.length + 1 ∧ ws.length ≤ rs.length
theorem mrg_1 {rs : List Nat} (hp : rpos rs) (h0 : rs ≠ []) (he : rs.length % 2 = 0) : Mrg true rs 0 rs := ⟨he, hp, h0, Nat.zero_le _, rtl_0 _, by omega, by omega⟩
theorem mrg_2 {r0 : Nat} {tl : List Nat} (hp : rpos (r0 :: tl)) (he : (r0 :: tl).length % 2 = 0) : Mrg false (r0 :: tl) r0 (tl ++ [r0]) := by
  rw [List.length_cons] at he
  obtain ⟨p0, pt⟩ := rpos_c hp
  refine ⟨by rw [List.length_append]; exact he, rpos_app pt (fun k hk => by rw [List.mem_singleton.mp hk]; exact p0), by simp, ?_, ?_, by simp, by simp⟩
  · rw [ex, List.length_append, rep_len]; omega
  · have := rtl_app (List.replicate r0 false) (ex true tl)
    rw [rep_len] at this
    rw [ex, show (!false) = true from rfl, this, ex_ap, if_neg (by omega), ex_1]; rfl
theorem mrg_3 {r0 r1 rl : Nat} {md : List Nat} (hp : rpos (r0 :: r1 :: (md ++ [rl]))) (he : md.length % 2 = 0) : Mrg true (r0 :: r1 :: (md ++ [rl])) (r0 + r1) (md ++ [rl + r0, r1]) := by
  obtain ⟨p0, pt⟩ := rpos_c hp
  obtain ⟨p1, pm⟩ := rpos_c pt
  obtain ⟨pm, pl⟩ := rpos_a pm
  refine ⟨by rw [List.length_append]; simp; omega, rpos_app pm (fun k hk => ?_), by simp, ?_, ?_, by simp, by simp⟩
  · rcases List.mem_cons.mp hk with q | q
    · omega
    · rw [List.mem_singleton.mp q]; exact p1
  · rw [ex, ex, List.length_append, List.length_append, rep_len, rep_len]; omega
  · have e : ex true (r0 :: r1 :: (md ++ [rl])) = (List.replicate r0 true ++ List.replicate r1 false) ++ (ex true md ++ List.replicate rl true) := by
      rw [ex_2, ex_ap, if_pos he, ex_1, List.append_assoc]
    have := rtl_app (List.replicate r0 true ++ List.replicate r1 false) (ex true md ++ List.replicate rl true)
    rw [List.length_append, rep_len, rep_len] at this
    rw [e, this, ex_ap, if_pos he, ex_2, ex, List.append_nil, List.append_assoc, ← List.append_assoc (List.replicate rl true), List.replicate_append_replicate]
theorem mrg_4 {r0 rl : Nat} {md : List Nat} (hp : rpos (r0 :: (md ++ [rl]))) (he : md.length % 2 = 1) : Mrg false (r0 :: (md ++ [rl])) r0 (md ++ [rl + r0]) := by
  obtain ⟨p0, pt⟩ := rpos_c hp
  obtain ⟨pm, pl⟩ := rpos_a pt
  refine ⟨by rw [List.length_append]; simp; omega, rpos_app pm (fun k hk => ?_), by simp, ?_, ?_, by simp, by simp⟩
  · rw [List.mem_singleton.mp hk]; omega
  · rw [ex, List.length_append, rep_len]; omega
  · have e : ex false (r0 :: (md ++ [rl])) = List.replicate r0 false ++ (ex true md ++ List.replicate rl false) := by
      rw [ex, show (!false) = true from rfl, ex_ap, if_neg (by omega), ex_1]; rfl
    have := rtl_app (List.replicate r0 false) (ex true md ++ List.replicate rl false)
    rw [rep_len] at this
    rw [e, this, ex_ap, if_neg (by omega), ex_1, List.append_assoc, List.replicate_append_replicate]; rfl
theorem rtl_cj {w : List Bool} {i : Nat} : ∃ C, cjb C (mw w) (mw (rtl w i)) := by
  refine ⟨mw (w.drop i), ?_⟩
  have := cj_tw (w.take i) (w.drop i)
  rwa [List.take_append_drop] at this
theorem Mrg.wh {x : Bool} {rs ws : List Nat} {ah : Nat} {A C : Mx} (h : Mrg x rs ah ws) (hc : cjb C A (mw (ex x rs))) (ht : mtr A ≤ 2000000) : (∃ D, cjb D A (mw (ex true ws))) ∧ ws.length ≤ 40 ∧ sbn ws := by
  obtain ⟨h1, h2, h3, h4, h5, h6⟩ := h
  obtain ⟨D, hD⟩ := rtl_cj (w := ex x rs) (i := ah)
  rw [h5] at hD
  have c := hc.trans hD
  obtain ⟨l1, l2⟩ := wh_len h1 h2 c ht
  exact ⟨⟨_, c⟩, l1, l2⟩
