/-! The class reads a wheel. -/
theorem at_copy {σ : Sg} {k i : Nat} {A : Mx} (h : At σ i A) : At (sX6_copyFrom k i σ) k A := by
  obtain ⟨h1, h2, h3, h4⟩ := h
  refine ⟨?_, ?_, ?_, ?_⟩ <;> simp [sX6_copyFrom, u2, h1, h2, h3, h4]
theorem at_fr2 {σ τ : Sg} {k : Nat} {A : Mx} (e : τ.2 k = σ.2 k) (h : At σ k A) : At τ k A := by
  unfold At at *; rw [e]; exact h
theorem at_chg {σ : Sg} {k : Nat} {A : Mx} (h : At σ k A) : At (sX6_changeSigns k σ) k (mng A) := by
  obtain ⟨h1, h2, h3, h4⟩ := h
  refine ⟨?_, ?_, ?_, ?_⟩ <;> simp [sX6_changeSigns, sX6_set, u2, h1, h2, h3, h4, lI_neg, mng]
theorem at_tr {σ : Sg} {k : Nat} {A : Mx} (h : At σ k A) : rX6_trace k σ = lI (mtr A) := by
  obtain ⟨h1, h2, h3, h4⟩ := h
  unfold rX6_trace mtr
  rw [h1, h4, lI_add]
/-- a square: its numbers, its area -/
def bdM (A : Mx) : Prop := (-1000000 ≤ A.1 ∧ A.1 ≤ 1000000) ∧ (-1000000 ≤ A.2.1 ∧ A.2.1 ≤ 1000000) ∧ (-1000000 ≤ A.2.2.1 ∧ A.2.2.1 ≤ 1000000) ∧ (-1000000 ≤ A.2.2.2 ∧ A.2.2.2 ≤ 1000000)
def okM (A : Mx) : Prop := mdt A = 1 ∧ bdM A
def psq (A : Mx) : Mx := if mtr A < 0 then mng A else A
theorem bdM_ng {A : Mx} (h : bdM A) : bdM (mng A) := by
  unfold bdM mng at *; simp only; omega
theorem bdM_big {A : Mx} (h : bdM A) : big A := by
  unfold bdM at h; unfold big sm; omega
theorem mtr_ng (A : Mx) : mtr (mng A) = -mtr A := by unfold mtr mng; simp only; omega
theorem psq_ok {A : Mx} (h : okM A) : okM (psq A) := by
  unfold psq
  split
  · exact ⟨by rw [mdt_ng]; exact h.1, bdM_ng h.2⟩
  · exact h
theorem psq_tr {A : Mx} (h : okM A) (ht : 3 ≤ (mtr A).natAbs) : 3 ≤ mtr (psq A) ∧ mtr (psq A) ≤ 2000000 := by
  have hb := h.2
  unfold psq
  split
  · rw [mtr_ng]
    unfold mtr bdM at *
    omega
  · unfold mtr bdM at *
    omega
theorem at_rdA {σ : Sg} {e i : Nat} {A : Mx} (h : At σ i A) (hA : okM A) : At (rdA e i σ) e (psq A) := by
  have h1 := at_copy (k := e) h
  have r : rg (mtr A) := by
    have := hA.2
    unfold bdM at this
    unfold rg mtr
    omega
  unfold rdA psq
  rw [at_tr h1]
  by_cases c : mtr A < 0
  · rw [if_pos ((lI_lt0 r).mpr c), if_pos c]
    exact at_chg h1
  · rw [if_neg (fun z => c ((lI_lt0 r).mp z)), if_neg c]
    exact h1
theorem rdG_runs {k r w p : Nat} (hkr : k ≠ r) : ∀ (rs : List Nat) (x : Bool) (m j : Nat) (σ : Sg), rpos rs → At σ p (mw (ex x rs)) → big (mw (ex x rs)) → rs.length ≤ m → σ.1 k 3 = nI j → ∃ τ, rdG k r w p m j σ = leastS k r (j + rs.length) 20 2 τ ∧ τ.1 k 3 = nI (j + rs.length) ∧ τ.1 k 4 = σ.1 k 4 ∧ (∀ i, i < j → τ.1 r i = σ.1 r i) ∧ ∀ i, i < rs.length → τ.1 r (j + i) = nI (rs.getD i 0) := by
  intro rs
  induction rs with
  | nil =>
    intro x m j σ hp ha hb hm hc
    refine ⟨σ, ?_, hc, rfl, fun _ _ => rfl, fun i hi => absurd hi (Nat.not_lt_zero _)⟩
    cases m with
    | zero => rfl
    | succ m =>
      rw [rdG, if_pos]
      · rfl
      · exact (at_one ha hb).mpr rfl
  | cons n rs ih =>
    intro x m j σ hp ha hb hm hc
    obtain ⟨hn, hp'⟩ := rpos_c hp
    have hne : ex x (n :: rs) ≠ [] := ex_ne hp (by simp)
    cases m with
    | zero => simp at hm
    | succ m =>
      rw [rdG, if_neg (fun (z : rX9_isEmpty w p σ = true) => hne (mw_one.mp ((at_one ha hb).mp z)))]
      rw [ex] at ha hb
      have hv : (ex (!x) rs).head? ≠ some x := by
        have := ex_hd (x := !x) hp'
        rwa [Bool.not_not] at this
      obtain ⟨q1, q2⟩ := at_drop (k := w) ha hb hn hv
      obtain ⟨τ, t1, t2, t3, t4, t5⟩ := ih (!x) m (j + 1) (rdS k r w p j σ) hp' (at_fr2 rfl q2) (big_suf _ _ hb) (by simp only [List.length_cons] at hm; omega) (rdS_3 hkr hc)
      have er : ∀ i, (rdS k r w p j σ).1 r i = if i = j then nI n else σ.1 r i := by
        intro i
        unfold rdS
        dsimp only
        rw [u2_k hkr.symm, q1, lI_nI, drop_1]
        unfold u2
        by_cases c : i = j
        · rw [if_pos ⟨rfl, c⟩, if_pos c]
        · rw [if_neg (fun z => c z.2), if_neg c]
      refine ⟨τ, ?_, ?_, t3.trans (rdS_4 hkr), fun i hi => ?_, fun i hi => ?_⟩
      · rw [t1, List.length_cons, show j + 1 + rs.length = j + (rs.length + 1) by omega]
      · rw [t2, List.length_cons, show j + 1 + rs.length = j + (rs.length + 1) by omega]
      · rw [t4 i (by omega), er, if_neg (by omega)]
      · cases i with
        | zero => rw [t4 _ (by omega), er, if_pos (by omega)]; rfl
        | succ i =>
          have := t5 i (by simp only [List.length_cons] at hi; omega)
          rw [show j + (i + 1) = j + 1 + i by omega, this]; rfl
/-- a product of both letters, turned till it begins with R and ends with L -/
theorem rdC_ok {e w p i : Nat} {σ : Sg} {B C : Mx} {w0 : List Bool} (ha : At (sX9_copyFrom w p e (sX6_carryToProduct e (rdA e i σ))) p (mw w0)) (hc : cjb C B (mw w0)) (ht : mtr B ≤ 2000000) (h1 : true ∈ w0) (h2 : false ∈ w0) : ∃ ws D, At (rdC e w p i σ) p (mw (ex true ws)) ∧ ws.length % 2 = 0 ∧ rpos ws ∧ ws ≠ [] ∧ cjb D B (mw (ex true ws)) := by
  have hb0 : big (mw w0) := word_big ⟨h1, h2⟩ (by rw [← hc.tr]; exact ht)
  have n0 : w0 ≠ [] := fun z => by rw [z] at h1; simp at h1
  obtain ⟨x, n, v, e0, hn, hv⟩ := run_ex w0 n0
  subst e0
  obtain ⟨_, a1⟩ := at_turn (k := w) ha hb0 hn hv
  have c1 := hc.trans (cj_tw (List.replicate n x) v)
  have mem : ∀ y, y ∈ List.replicate n x ++ v → y ∈ v ++ List.replicate n x := fun y hy => by
    rw [List.mem_append] at *; exact hy.symm
  have hb1 : big (mw (v ++ List.replicate n x)) := word_big ⟨mem _ h1, mem _ h2⟩ (by rw [← c1.tr]; exact ht)
  have hvx : (!x) ∈ v := by
    have : (!x) ∈ List.replicate n x ++ v := by cases x; exact h1; exact h2
    rcases List.mem_append.mp this with q | q
    · have := List.eq_of_mem_replicate q
      cases x <;> cases this
    · exact q
  have v0 : v ≠ [] := fun z => by rw [z] at hvx; simp at hvx
  obtain ⟨y, m, v2, e1, hm, hv2⟩ := run_ex (v ++ List.replicate n x) (by simp [v0])
  have hhd : (v ++ List.replicate n x).head? = some y := by rw [e1]; exact rep_hd hm y v2
  have hy : y = !x := by
    have : (v ++ List.replicate n x).head? = v.head? := by
      cases v with
      | nil => exact absurd rfl v0
      | cons z v => rfl
    rw [this] at hhd
    rw [hhd] at hv
    cases x <;> cases y <;> simp at hv ⊢
  have hl1 : (v ++ List.replicate n x).getLast? = some x := rep_last hn x v
  have a1' := a1
  rw [e1] at a1'
  obtain ⟨b1, _⟩ := at_fr (k := w) a1' (by rw [← e1]; exact hb1) hm hv2
  unfold rdC
  have eB : rdB e w p i σ = sX9_turnFirstRun w p (sX9_copyFrom w p e (sX6_carryToProduct e (rdA e i σ))) := rfl
  rw [eB, b1]
  cases x with
  | false =>
    rw [show y = true from hy] at hhd ⊢
    rw [if_pos rfl]
    obtain ⟨ws, q1, q2, q3, q4⟩ := wd_tf hhd hl1
    exact ⟨ws, _, by rw [← q1]; exact a1, q2, q3, q4, by rw [← q1]; exact c1⟩
  | true =>
    have hyf : y = false := hy
    subst hyf
    rw [if_neg (by decide)]
    obtain ⟨_, a2⟩ := at_turn (k := w) a1' (by rw [← e1]; exact hb1) hm hv2
    rw [e1] at c1
    have c2 := c1.trans (cj_tw (List.replicate m false) v2)
    have hl2 : (v2 ++ List.replicate m false).getLast? = some false := rep_last hm false v2
    have v20 : v2 ≠ [] := fun z => by
      have : true ∈ v ++ List.replicate n true := mem _ h1
      rw [e1, z, List.append_nil] at this
      have := List.eq_of_mem_replicate this
      cases this
    have hh2 : (v2 ++ List.replicate m false).head? = some true := by
      cases v2 with
      | nil => exact absurd rfl v20
      | cons z v2 =>
        cases z
        · exact absurd rfl hv2
        · rfl
    obtain ⟨ws, q1, q2, q3, q4⟩ := wd_tf hh2 hl2
    exact ⟨ws, _, by rw [← q1]; exact a2, q2, q3, q4, by rw [← q1]; exact c2⟩
/-- what a wheel of the class is of a square -/
def CWh (τ : Sg) (k r : Nat) (B : Mx) : Prop := ∃ ws t, IsWh B (rtl ws t) ∧ ws.length ≤ 40 ∧ ws.length % 2 = 0 ∧ rpos ws ∧ sbn ws ∧ t % 2 = 0 ∧ t < ws.length ∧ τ.1 k 3 = nI ws.length ∧ τ.1 k 4 = nI t ∧ Vl (τ.1 r) ws
theorem read_wh {k r e w p i : Nat} {σ : Sg} {A : Mx} (hkr : k ≠ r) (h : At σ i A) (hA : okM A) (ht : 3 ≤ (mtr A).natAbs) : CWh (sX8_read k r e w p i σ) k r (psq A) := by
  obtain ⟨t3, t2⟩ := psq_tr hA ht
  have hB := psq_ok hA
  obtain ⟨w0, C, a1, c1, m1, m2, _⟩ := ctp_ok (at_rdA (e := e) h hA) hB.1 t3 t2 (by have := hB.2; unfold bdM at this; unfold sml; omega) (by have := hB.2; unfold bdM at this; omega)
  obtain ⟨ws, D, a2, q2, q3, q4, c2⟩ := rdC_ok (e := e) (w := w) (p := p) (i := i) (σ := σ) (at_copy a1) c1 t2 m1 m2
  obtain ⟨l1, l2⟩ := wh_len q2 q3 c2 t2
  have hb : big (mw (ex true ws)) := word_big (ex_both q2 q3 q4) (by rw [← c2.tr]; exact t2)
  obtain ⟨τ, e1, e2, e3, _, e5⟩ := rdG_runs (k := k) (r := r) (w := w) (p := p) hkr ws true 40 0 (rd0 k r e w p i σ) q3 (at_fr2 rfl a2) hb l1 (by unfold rd0 sX8_clear; dsimp only; rw [u2_j (by decide), u2_eq]; rfl)
  have e40 : (rd0 k r e w p i σ).1 k 4 = nI 0 := by unfold rd0 sX8_clear; exact u2_eq _ _ _ _
  have hv : Vl (τ.1 r) ws := fun i hi => by
    have := e5 i hi
    rwa [Nat.zero_add] at this
  have hpos : 0 < ws.length := by
    cases ws with
    | nil => exact absurd rfl q4
    | cons a b => simp
  rw [Nat.zero_add] at e1 e2
  obtain ⟨t, g1, g2⟩ := least_go hkr l2 l1 20 2 0 τ hv (e3.trans e40) (Lst.two hpos) rfl (by omega)
  have er : sX8_read k r e w p i σ = leastS k r ws.length 20 2 τ := e1
  refine ⟨ws, t, wh_mk q2 q3 q4 c2 g2, l1, q2, q3, l2, g2.1, g2.2.1, ?_, ?_, ?_⟩
  · rw [er]
    have : ∀ (m x : Nat) (ρ : Sg), (leastS k r ws.length m x ρ).1 k 3 = ρ.1 k 3 := by
      intro m
      induction m with
      | zero => intro x ρ; rfl
      | succ m ih =>
        intro x ρ
        rw [leastS]
        split
        · rw [ih]
          split
          · exact u2_j (by decide)
          · rfl
        · rfl
    rw [this, e2]
  · rw [er, g1]
  · rw [er]
    intro i hi
    rw [leastS_1 hkr.symm]
    exact hv i hi
