/-! The reference's state. -/
def cpG (a b o p : Nat) : Nat → Nat → Sg → Sg
  | 0, _, σ => σ
  | m + 1, k, σ => cpG a b o p m (k + 1) (u2 σ.1 a (o + k) (σ.1 b (p + k)), σ.2)
theorem cpG_at {a b o p : Nat} (h : a ≠ b ∨ o ≤ p) : ∀ (m k : Nat) (σ : Sg), (∀ i, (cpG a b o p m k σ).1 a i = if o + k ≤ i ∧ i < o + k + m then σ.1 b (p + (i - o)) else σ.1 a i) ∧ (∀ c, c ≠ a → (cpG a b o p m k σ).1 c = σ.1 c) ∧ (cpG a b o p m k σ).2 = σ.2
  | 0, k, σ => by
    rw [cpG]
    refine ⟨fun i => ?_, fun _ _ => rfl, rfl⟩
    rw [if_neg (by omega)]
  | m + 1, k, σ => by
    rw [cpG]
    obtain ⟨g1, g2, g3⟩ := cpG_at h m (k + 1) (u2 σ.1 a (o + k) (σ.1 b (p + k)), σ.2)
    refine ⟨fun i => ?_, fun c hc => (g2 c hc).trans (u2k hc), g3⟩
    rw [g1]
    dsimp only
    by_cases c1 : i = o + k
    · subst c1
      rw [if_neg (by omega), if_pos (by omega), u2_eq, show o + k - o = k by omega]
    · rw [u2_j c1]
      by_cases c2 : o + k ≤ i ∧ i < o + k + (m + 1)
      · rw [if_pos c2, if_pos (by omega)]
        rcases h with h | h
        · rw [u2_k (fun z => h z.symm)]
        · by_cases ab : b = a
          · subst ab
            rw [u2_j (by omega)]
          · rw [u2_k ab]
      · rw [if_neg c2, if_neg (by omega)]
theorem n1_G : ∀ (m k : Nat) (σ : Sg), n1F m k σ = cpG 161 161 0 49 m k σ
  | 0, _, _ => rfl
  | m + 1, k, σ => by rw [n1F, cpG, n1_G m (k + 1), Nat.zero_add, Nat.add_comm 49 k]
theorem n2_G (t : Nat) : ∀ (m k : Nat) (σ : Sg), n2F t m k σ = cpG 161 160 (49 * t) 0 m k σ
  | 0, _, _ => rfl
  | m + 1, k, σ => by rw [n2F, cpG, n2_G t m (k + 1), Nat.zero_add]
theorem tk_G : ∀ (m k : Nat) (σ : Sg), tkL m k σ = cpG 160 160 0 4 m k σ
  | 0, _, _ => rfl
  | m + 1, k, σ => by rw [tkL, cpG, tk_G m (k + 1), Nat.zero_add, Nat.add_comm 4 k]
theorem un_G (t : Nat) : ∀ (m k : Nat) (σ : Sg), unF t m k σ = cpG 160 161 0 (49 * t) m k σ
  | 0, _, _ => rfl
  | m + 1, k, σ => by rw [unF, cpG, un_G t m (k + 1), Nat.zero_add]
theorem ke_G (i : Nat) : ∀ (m k : Nat) (σ : Sg), keL i m k σ = cpG 162 160 (50 * i) 0 m k σ
  | 0, _, _ => rfl
  | m + 1, k, σ => by rw [keL, cpG, ke_G i m (k + 1), Nat.zero_add]
theorem gb_G (i : Nat) : ∀ (m k : Nat) (σ : Sg), gbL i m k σ = cpG 160 162 0 (50 * i) m k σ
  | 0, _, _ => rfl
  | m + 1, k, σ => by rw [gbL, cpG, gb_G i m (k + 1), Nat.zero_add]
def M1 (σ : Sg) (L : List Mx) : Prop := σ.1 160 0 = nI L.length ∧ L.length ≤ 12 ∧ Rep (σ.1 160) 1 L
def M2 (σ : Sg) (Q : List (List Mx)) : Prop := σ.1 159 2 = nI Q.length ∧ Q.length ≤ 20 ∧ ∀ e, e < Q.length → σ.1 161 (49 * e) = nI (gl Q e).length ∧ (gl Q e).length ≤ 12 ∧ Rep (σ.1 161) (49 * e + 1) (gl Q e)
def M3 (σ : Sg) (I : Ims) : Prop := ∀ i, i < 2 → (I i = none → σ.1 163 i = 0) ∧ ∀ p, I i = some p → σ.1 163 i = 1 ∧ σ.1 162 (50 * i) = nI p.1.length ∧ p.1.length ≤ 12 ∧ Rep (σ.1 162) (50 * i + 1) p.1 ∧ σ.1 162 (50 * i + 49) = p.2
def M4 (σ : Sg) (T : List Int32) (fa : Int32) : Prop := σ.1 159 7 = nI T.length ∧ (∀ i, i < T.length → σ.1 164 i = T.getD i 0) ∧ σ.1 159 8 = fa
def M5 (σ : Sg) (B : Bk) : Prop := σ.1 159 10 = nI B.length ∧ ∀ i, i < B.length → σ.1 165 (3 * i) = (gb B i).1 ∧ σ.1 165 (3 * i + 1) = (gb B i).2.1 ∧ σ.1 165 (3 * i + 2) = bI (gb B i).2.2
def RM (σ : Sg) (L : List Mx) (Q : List (List Mx)) (I : Ims) (T : List Int32) (fa : Int32) (B : Bk) (sd : Int32) : Prop := M1 σ L ∧ M2 σ Q ∧ M3 σ I ∧ M4 σ T fa ∧ M5 σ B ∧ σ.1 159 5 = sd
theorem M2.fr {σ τ : Sg} {Q : List (List Mx)} (e1 : τ.1 159 2 = σ.1 159 2) (e2 : τ.1 161 = σ.1 161) (h : M2 σ Q) : M2 τ Q := by
  unfold M2 at *; rw [e1, e2]; exact h
theorem M3.fr {σ τ : Sg} {I : Ims} (e1 : τ.1 162 = σ.1 162) (e2 : τ.1 163 = σ.1 163) (h : M3 σ I) : M3 τ I := by
  unfold M3 at *; rw [e1, e2]; exact h
theorem M4.fr {σ τ : Sg} {T : List Int32} {fa : Int32} (e1 : τ.1 159 7 = σ.1 159 7) (e2 : τ.1 159 8 = σ.1 159 8) (e3 : τ.1 164 = σ.1 164) (h : M4 σ T fa) : M4 τ T fa := by
  unfold M4 at *; rw [e1, e2, e3]; exact h
theorem M5.fr {σ τ : Sg} {B : Bk} (e1 : τ.1 159 10 = σ.1 159 10) (e2 : τ.1 165 = σ.1 165) (h : M5 σ B) : M5 τ B := by
  unfold M5 at *; rw [e1, e2]; exact h
theorem M1.fr {σ τ : Sg} {L : List Mx} (e1 : τ.1 160 = σ.1 160) (h : M1 σ L) : M1 τ L := by
  unfold M1 at *; rw [e1]; exact h
/-- what of the reference is its state -/
def kpM (a j : Nat) : Bool := a == 160 || a == 161 || a == 162 || a == 163 || a == 164 || a == 165 || (a == 159 && (j == 2 || j == 5 || j == 7 || j == 8 || j == 10))
theorem RM.fr {σ τ : Sg} {L : List Mx} {Q : List (List Mx)} {I : Ims} {T : List Int32} {fa : Int32} {B : Bk} {sd : Int32} (e : ∀ a j, kpM a j = true → τ.1 a j = σ.1 a j) (h : RM σ L Q I T fa B sd) : RM τ L Q I T fa B sd := by
  have w : ∀ a, (a = 160 ∨ a = 161 ∨ a = 162 ∨ a = 163 ∨ a = 164 ∨ a = 165) → τ.1 a = σ.1 a := fun a ha => funext fun j => e a j (by rcases ha with rfl | rfl | rfl | rfl | rfl | rfl <;> rfl)
  obtain ⟨h1, h2, h3, h4, h5, h6⟩ := h
  exact ⟨h1.fr (w _ (by omega)), h2.fr (e _ _ rfl) (w _ (by omega)), h3.fr (w _ (by omega)) (w _ (by omega)), h4.fr (e _ _ rfl) (e _ _ rfl) (w _ (by omega)), h5.fr (e _ _ rfl) (w _ (by omega)), by rw [e _ _ rfl]; exact h6⟩
theorem kq_kp (a j : Nat) (h : kpM a j = true) : I10 a j = false := by
  unfold kpM at h
  unfold I10 I8
  simp only [Bool.or_eq_true, Bool.and_eq_true, beq_iff_eq] at h
  simp only [Bool.or_eq_false_iff, Bool.and_eq_false_iff, beq_eq_false_iff_ne]
  omega
theorem RM.kq {σ τ : Sg} {L : List Mx} {Q : List (List Mx)} {I : Ims} {T : List Int32} {fa : Int32} {B : Bk} {sd : Int32} (k : Kq I10 L10 σ τ) (h : RM σ L Q I T fa B sd) : RM τ L Q I T fa B sd := h.fr (fun a j q => k.1 a j (kq_kp a j q))
theorem RM.hi {σ τ : Sg} {L : List Mx} {Q : List (List Mx)} {I : Ims} {T : List Int32} {fa : Int32} {B : Bk} {sd : Int32} (k : ∀ a, 159 ≤ a → τ.1 a = σ.1 a) (h : RM σ L Q I T fa B sd) : RM τ L Q I T fa B sd := h.fr (fun a j q => by
  unfold kpM at q
  simp only [Bool.or_eq_true, Bool.and_eq_true, beq_iff_eq] at q
  rw [k a (by omega)])
/-- the square at hand -/
theorem am_tf {σ : Sg} {L : List Mx} {s : Nat} {x : Int32} (h : Rep (σ.1 160) 1 L) (ok : okL L) (hs : s < L.length) : Am (sX11_takesFrom s x σ) (gq L s) := by
  have b := (okL_at ok hs).2
  unfold bdM at b
  unfold sX11_takesFrom
  apply am_tk
  · have := rep_at h hs (j := 0) (by omega)
    rw [show 1 + (4 * s + 0) = 1 + 4 * s by omega] at this
    rw [this]; exact iI_lI (by show -2147483648 ≤ (gq L s).1 ∧ (gq L s).1 ≤ _; omega)
  · have := rep_at h hs (j := 1) (by omega)
    rw [show 1 + (4 * s + 1) = 2 + 4 * s by omega] at this
    rw [this]; exact iI_lI (by show -2147483648 ≤ (gq L s).2.1 ∧ (gq L s).2.1 ≤ _; omega)
  · have := rep_at h hs (j := 2) (by omega)
    rw [show 1 + (4 * s + 2) = 3 + 4 * s by omega] at this
    rw [this]; exact iI_lI (by show -2147483648 ≤ (gq L s).2.2.1 ∧ (gq L s).2.2.1 ≤ _; omega)
  · have := rep_at h hs (j := 3) (by omega)
    rw [show 1 + (4 * s + 3) = 4 + 4 * s by omega] at this
    rw [this]; exact iI_lI (by show -2147483648 ≤ (gq L s).2.2.2 ∧ (gq L s).2.2.2 ≤ _; omega)
theorem am_ent {σ : Sg} {A : Mx} (h : Am σ A) {j : Nat} (hj : j < 4) : (σ.2 159 (11 + j)).toInt32 = iI (ent A j) := by
  obtain ⟨h1, h2, h3, h4⟩ := h
  have : j = 0 ∨ j = 1 ∨ j = 2 ∨ j = 3 := by omega
  rcases this with rfl | rfl | rfl | rfl
  · rw [h1, lI_iI]; rfl
  · rw [h2, lI_iI]; rfl
  · rw [h3, lI_iI]; rfl
  · rw [h4, lI_iI]; rfl
theorem la_at {σ : Sg} {s : Nat} {x : Int32} : (∀ j, j < 4 → (sX11_laysAt s x σ).1 160 (1 + (4 * s + j)) = (σ.2 159 (11 + j)).toInt32) ∧ (∀ m, m < 1 + 4 * s ∨ 1 + 4 * s + 4 ≤ m → (sX11_laysAt s x σ).1 160 m = σ.1 160 m) ∧ (∀ a, a ≠ 160 → (sX11_laysAt s x σ).1 a = σ.1 a) := by
  unfold sX11_laysAt
  dsimp only
  refine ⟨fun j hj => ?_, fun m hm => ?_, fun a ha => ?_⟩
  · have : j = 0 ∨ j = 1 ∨ j = 2 ∨ j = 3 := by omega
    rcases this with rfl | rfl | rfl | rfl
    · rw [u2_j (by omega), u2_j (by omega), u2_j (by omega), show 1 + (4 * s + 0) = 1 + 4 * s by omega, u2_eq]
    · rw [u2_j (by omega), u2_j (by omega), show 1 + (4 * s + 1) = 2 + 4 * s by omega, u2_eq]
    · rw [u2_j (by omega), show 1 + (4 * s + 2) = 3 + 4 * s by omega, u2_eq]
    · rw [show 1 + (4 * s + 3) = 4 + 4 * s by omega, u2_eq]
  · rw [u2_j (by omega), u2_j (by omega), u2_j (by omega), u2_j (by omega)]
  · rw [u2k ha, u2k ha, u2k ha, u2k ha]
theorem m1_set {σ : Sg} {L : List Mx} {s : Nat} {x : Int32} {A : Mx} (h : M1 σ L) (ha : Am σ A) : M1 (sX11_laysAt s x σ) (L.set s A) := by
  obtain ⟨h1, h2, h3⟩ := h
  obtain ⟨s1, s2, _⟩ := la_at (σ := σ) (s := s) (x := x)
  refine ⟨by rw [s2 _ (by omega), h1, List.length_set], by rw [List.length_set]; exact h2, ?_⟩
  apply rep_set h3
  · intro k hk hne j hj
    rw [s2 _ (by omega)]
  · intro j hj
    rw [s1 j hj, am_ent ha hj]
/-- the reference notes its shelf -/
theorem no_ok {σ : Sg} {L : List Mx} {Q : List (List Mx)} (h1 : M1 σ L) (h2 : M2 σ Q) : M2 (sNo Q.length σ) (psh Q L) ∧ (∀ a, a ≠ 161 → a ≠ 159 → (sNo Q.length σ).1 a = σ.1 a) ∧ (∀ j, j ≠ 2 → (sNo Q.length σ).1 159 j = σ.1 159 j) ∧ (sNo Q.length σ).2 = σ.2 := by
  obtain ⟨a1, a2, a3⟩ := h1
  obtain ⟨b1, b2, b3⟩ := h2
  unfold sNo
  have key : ∀ (t : Nat) (ρ : Sg) (R : List (List Mx)), t = R.length → t < 20 → ρ.1 159 2 = nI t → ρ.1 160 = σ.1 160 → (∀ e, e < R.length → ρ.1 161 (49 * e) = nI (gl R e).length ∧ (gl R e).length ≤ 12 ∧ Rep (ρ.1 161) (49 * e + 1) (gl R e)) → M2 (n2E t ρ) (R ++ [L]) ∧ (∀ a, a ≠ 161 → a ≠ 159 → (n2E t ρ).1 a = ρ.1 a) ∧ (∀ j, j ≠ 2 → (n2E t ρ).1 159 j = ρ.1 159 j) ∧ (n2E t ρ).2 = ρ.2 := by
    intro t ρ R ht hlt hu hn hr
    unfold n2E
    rw [n2_G]
    obtain ⟨g1, g2, g3⟩ := cpG_at (a := 161) (b := 160) (o := 49 * t) (p := 0) (Or.inl (by decide)) 49 0 ρ
    generalize cpG 161 160 (49 * t) 0 49 0 ρ = μ at *
    refine ⟨⟨?_, by rw [List.length_append, List.length_singleton]; omega, fun e he => ?_⟩, fun a ha hb => ?_, fun j hj => ?_, g3⟩
    · dsimp only
      rw [u2_eq, g2 159 (by decide), hu, nI_1, List.length_append, List.length_singleton, ht]
    · dsimp only
      rw [u2k (by decide)]
      rw [List.length_append, List.length_singleton] at he
      rw [gl_app (by omega)]
      by_cases c : e < R.length
      · rw [if_pos c]
        obtain ⟨r1, r2, r3⟩ := hr e c
        refine ⟨by rw [g1, if_neg (by omega)]; exact r1, r2, ?_⟩
        apply rep_cp r3
        intro i hi
        rw [g1, if_neg (by omega)]
      · rw [if_neg c]
        have ee : e = t := by omega
        subst ee
        refine ⟨?_, a2, ?_⟩
        · rw [g1, if_pos (by omega), hn, show 0 + (49 * e - 49 * e) = 0 by omega]; exact a1
        · apply rep_cp a3
          intro i hi
          rw [g1, if_pos (by omega), hn, show 0 + (49 * e + 1 + i - 49 * e) = 1 + i by omega]
    · dsimp only
      rw [u2k hb, g2 a ha]
    · dsimp only
      rw [u2_j hj, g2 159 (by decide)]
  by_cases c : Q.length = 20
  · rw [if_pos c]
    obtain ⟨g1, g2, g3⟩ := cpG_at (a := 161) (b := 161) (o := 0) (p := 49) (Or.inr (by omega)) 931 0 σ
    have e1 : n1E σ = (u2 (cpG 161 161 0 49 931 0 σ).1 159 2 ((cpG 161 161 0 49 931 0 σ).1 159 2 - 1), (cpG 161 161 0 49 931 0 σ).2) := by unfold n1E; rw [n1_G]
    generalize cpG 161 161 0 49 931 0 σ = μ at *
    have k := key 19 (n1E σ) (Q.drop 1) (by rw [List.length_drop]; omega) (by omega) (by
      rw [e1]; dsimp only; rw [u2_eq, g2 159 (by decide), b1, c]; rfl) (by
      rw [e1]; dsimp only; rw [u2k (by decide), g2 160 (by decide)]) (fun e he => by
      rw [List.length_drop] at he
      obtain ⟨r1, r2, r3⟩ := b3 (e + 1) (by omega)
      rw [gl_drop, e1]
      dsimp only
      rw [u2k (by decide)]
      refine ⟨?_, r2, ?_⟩
      · rw [g1, if_pos (by omega), show 49 + (49 * e - 0) = 49 * (e + 1) by omega]; exact r1
      · apply rep_cp r3
        intro i hi
        rw [g1, if_pos (by omega), show 49 + (49 * e + 1 + i - 0) = 49 * (e + 1) + 1 + i by omega])
    obtain ⟨k1, k2, k3, k4⟩ := k
    refine ⟨by unfold psh; rw [if_pos c]; exact k1, fun a ha hb => ?_, fun j hj => ?_, ?_⟩
    · rw [k2 a ha hb, e1]; dsimp only; rw [u2k hb, g2 a ha]
    · rw [k3 j hj, e1]; dsimp only; rw [u2_j hj, g2 159 (by decide)]
    · rw [k4, e1]; exact g3
  · rw [if_neg c]
    obtain ⟨k1, k2, k3, k4⟩ := key Q.length σ Q rfl (by omega) b1 rfl b3
    exact ⟨by unfold psh; rw [if_neg c]; exact k1, k2, k3, k4⟩
theorem rm_no {σ : Sg} {L : List Mx} {Q : List (List Mx)} {I : Ims} {T : List Int32} {fa : Int32} {B : Bk} {sd : Int32} (h : RM σ L Q I T fa B sd) : RM (sNo Q.length σ) L (psh Q L) I T fa B sd ∧ (sNo Q.length σ).2 = σ.2 ∧ ∀ a, a < 159 → (sNo Q.length σ).1 a = σ.1 a := by
  obtain ⟨h1, h2, h3, h4, h5, h6⟩ := h
  obtain ⟨n1, n2, n3, n4⟩ := no_ok h1 h2
  exact ⟨⟨h1.fr (n2 _ (by decide) (by decide)), n1, h3.fr (n2 _ (by decide) (by decide)) (n2 _ (by decide) (by decide)), h4.fr (n3 _ (by decide)) (n3 _ (by decide)) (n2 _ (by decide) (by decide)), h5.fr (n3 _ (by decide)) (n2 _ (by decide) (by decide)), by rw [n3 _ (by decide)]; exact h6⟩, n4, fun a ha => n2 a (by omega) (by omega)⟩
theorem RM.shelf {σ τ : Sg} {L L' : List Mx} {Q : List (List Mx)} {I : Ims} {T : List Int32} {fa : Int32} {B : Bk} {sd : Int32} (e : ∀ a, a ≠ 160 → τ.1 a = σ.1 a) (hL : M1 τ L') (h : RM σ L Q I T fa B sd) : RM τ L' Q I T fa B sd := by
  obtain ⟨h1, h2, h3, h4, h5, h6⟩ := h
  exact ⟨hL, h2.fr (by rw [e _ (by decide)]) (e _ (by decide)), h3.fr (e _ (by decide)) (e _ (by decide)), h4.fr (by rw [e _ (by decide)]) (by rw [e _ (by decide)]) (e _ (by decide)), h5.fr (by rw [e _ (by decide)]) (e _ (by decide)), by rw [e _ (by decide)]; exact h6⟩
/-- a square is put -/
theorem rm_puts {σ : Sg} {L : List Mx} {Q : List (List Mx)} {I : Ims} {T : List Int32} {fa : Int32} {B : Bk} {sd : Int32} {A : Mx} (h : RM σ L Q I T fa B sd) (hn : L.length < 12) (ha : Am σ A) : rX11_puts Q.length L.length σ = nI L.length ∧ RM (sX11_puts Q.length L.length σ) (L ++ [A]) (psh Q L) I T fa B sd ∧ (sX11_puts Q.length L.length σ).2 = σ.2 ∧ ∀ a, a < 159 → (sX11_puts Q.length L.length σ).1 a = σ.1 a := by
  obtain ⟨n1, n2, n3⟩ := rm_no h
  unfold rX11_puts sX11_puts
  generalize sNo Q.length σ = ρ at *
  have am : Am ρ A := am_fr ⟨by rw [n2], by rw [n2], by rw [n2], by rw [n2]⟩ ha
  obtain ⟨l1, l2, l3⟩ := la_at (σ := ρ) (s := L.length) (x := ρ.1 160 0)
  have hm := n1.1
  have e0 : (sX11_laysAt L.length (ρ.1 160 0) ρ).1 160 0 = nI L.length := by rw [l2 _ (by omega)]; exact hm.1
  have el : (sX11_laysAt L.length (ρ.1 160 0) ρ).2 = ρ.2 := rfl
  generalize sX11_laysAt L.length (ρ.1 160 0) ρ = μ at *
  refine ⟨?_, ?_, by rw [← n2, ← el], fun a ha' => ?_⟩
  · rw [u2_eq, e0, nI_1, show (1 : Int32) = nI 1 from rfl, pk_sub (by omega)]; congr 1
  · refine n1.shelf (fun a ha' => ?_) ⟨?_, by rw [List.length_append, List.length_singleton]; omega, ?_⟩
    · dsimp only; rw [u2k ha', l3 a ha']
    · dsimp only; rw [u2_eq, e0, nI_1, List.length_append, List.length_singleton]
    · dsimp only
      apply rep_push hm.2.2
      · intro i hi
        rw [u2_j (by omega), l2 _ (by omega)]
      · intro j hj
        rw [u2_j (by omega), l1 j hj, am_ent am hj]
  · dsimp only; rw [u2k (by omega), l3 a (by omega), n3 a ha']
theorem rg_bdM {A : Mx} (h : bdM A) : rg A.1 ∧ rg A.2.1 ∧ rg A.2.2.1 ∧ rg A.2.2.2 := by
  unfold bdM at h; unfold rg; omega
def rgM (A : Mx) : Prop := rg A.1 ∧ rg A.2.1 ∧ rg A.2.2.1 ∧ rg A.2.2.2
theorem bd_lI {x : Int} {σ : Sg} (h : rg x) : rX11_isBound (lI x) σ = decide (-1000000 ≤ x ∧ x ≤ 1000000) := by
  unfold rX11_isBound
  rw [show (-1000000 : Int64) = lI (-1000000) from rfl, show (1000000 : Int64) = lI 1000000 from rfl, in_lI h (by unfold rg; omega) (by unfold rg; omega)]
theorem am_well {σ : Sg} {A : Mx} (h : Am σ A) (hr : rgM A) : rX11_isWell σ = true ↔ bdM A := by
  obtain ⟨h1, h2, h3, h4⟩ := h
  obtain ⟨r1, r2, r3, r4⟩ := hr
  unfold rX11_isWell bdM
  rw [h1, h2, h3, h4, bd_lI r1, bd_lI r2, bd_lI r3, bd_lI r4]
  by_cases c1 : -1000000 ≤ A.1 ∧ A.1 ≤ 1000000 <;> by_cases c2 : -1000000 ≤ A.2.1 ∧ A.2.1 ≤ 1000000 <;> by_cases c3 : -1000000 ≤ A.2.2.1 ∧ A.2.2.1 ≤ 1000000 <;> by_cases c4 : -1000000 ≤ A.2.2.2 ∧ A.2.2.2 ≤ 1000000 <;> simp [c1, c2, c3, c4]
theorem num_lI {x : Int} {σ : Sg} (h : rg x) : rX6_isNumber (lI x) σ = decide (-1000000 ≤ x ∧ x ≤ 1000000) := by
  unfold rX6_isNumber
  have e1 : lI x < (-1000000 : Int64) ↔ x < -1000000 := by rw [show (-1000000 : Int64) = lI (-1000000) from rfl]; exact lI_lt h (by unfold rg; omega)
  have e2 : (1000000 : Int64) < lI x ↔ 1000000 < x := by rw [show (1000000 : Int64) = lI 1000000 from rfl]; exact lI_lt (by unfold rg; omega) h
  by_cases c1 : x < -1000000
  · rw [if_pos (e1.mpr c1)]; symm; rw [decide_eq_false_iff_not]; omega
  · rw [if_neg (fun z => c1 (e1.mp z))]
    by_cases c2 : 1000000 < x
    · rw [if_pos (e2.mpr c2)]; symm; rw [decide_eq_false_iff_not]; omega
    · rw [if_neg (fun z => c2 (e2.mp z))]; symm; rw [decide_eq_true_iff]; omega
theorem at_within {σ : Sg} {i : Nat} {A : Mx} (h : At σ i A) (hr : rgM A) : rX6_isWithinBounds i σ = true ↔ bdM A := by
  obtain ⟨h1, h2, h3, h4⟩ := h
  obtain ⟨r1, r2, r3, r4⟩ := hr
  unfold rX6_isWithinBounds bdM
  rw [h1, h2, h3, h4, num_lI r1, num_lI r2, num_lI r3, num_lI r4]
  by_cases c1 : -1000000 ≤ A.1 ∧ A.1 ≤ 1000000 <;> by_cases c2 : -1000000 ≤ A.2.1 ∧ A.2.1 ≤ 1000000 <;> by_cases c3 : -1000000 ≤ A.2.2.1 ∧ A.2.2.1 ≤ 1000000 <;> by_cases c4 : -1000000 ≤ A.2.2.2 ∧ A.2.2.2 ≤ 1000000 <;> simp [c1, c2, c3, c4]
/-- a square becomes another one -/
theorem rm_bec {σ : Sg} {L : List Mx} {Q : List (List Mx)} {I : Ims} {T : List Int32} {fa : Int32} {B : Bk} {sd : Int32} {A : Mx} {s : Nat} {x : Int32} (h : RM σ L Q I T fa B sd) (ok : okL L) (hs : s < L.length) (ha : Am σ A) (hA : bdM A) : (rX11_becomes Q.length s x σ = if gq L s = A then 0 else 1) ∧ RM (sX11_becomes Q.length s x σ) (L.set s A) (psh Q L) I T fa B sd ∧ ∀ a, a < 159 → (sX11_becomes Q.length s x σ).1 a = σ.1 a ∧ (sX11_becomes Q.length s x σ).2 a = σ.2 a := by
  obtain ⟨n1, n2, n3⟩ := rm_no h
  have hw := (am_well ha (rg_bdM hA)).mpr hA
  have es : sX11_becomes Q.length s x σ = sX11_laysAt s x (sNo Q.length σ) := by
    unfold sX11_becomes
    rw [if_pos hw]
    split <;> rfl
  have er : rX11_becomes Q.length s x σ = if rX11_isAt s x (sNo Q.length σ) = true then 0 else 1 := by
    unfold rX11_becomes
    rw [if_pos hw]
  rw [es, er]
  generalize sNo Q.length σ = ρ at *
  have am : Am ρ A := am_fr ⟨by rw [n2], by rw [n2], by rw [n2], by rw [n2]⟩ ha
  obtain ⟨l1, l2, l3⟩ := la_at (σ := ρ) (s := s) (x := x)
  refine ⟨?_, n1.shelf l3 (m1_set n1.1 am), fun a ha' => ⟨by rw [l3 a (by omega), n3 a ha'], by rw [← n2]; rfl⟩⟩
  have tf := am_tf (s := s) (x := x) n1.1.2.2 ok hs
  unfold sX11_takesFrom at tf
  obtain ⟨t1, t2, t3, t4⟩ := tf
  have g1 : (ρ.1 160 (1 + 4 * s)).toInt64 = lI (gq L s).1 := by rw [← t1]; simp [sX11_takes, u2]
  have g2 : (ρ.1 160 (2 + 4 * s)).toInt64 = lI (gq L s).2.1 := by rw [← t2]; simp [sX11_takes, u2]
  have g3 : (ρ.1 160 (3 + 4 * s)).toInt64 = lI (gq L s).2.2.1 := by rw [← t3]; simp [sX11_takes, u2]
  have g4 : (ρ.1 160 (4 + 4 * s)).toInt64 = lI (gq L s).2.2.2 := by rw [← t4]; simp [sX11_takes, u2]
  have b := (okL_at ok hs).2
  unfold bdM at b hA
  have e1 := lI_eq (x := A.1) (y := (gq L s).1) (by unfold rg; omega) (by unfold rg; omega)
  have e2 := lI_eq (x := A.2.1) (y := (gq L s).2.1) (by unfold rg; omega) (by unfold rg; omega)
  have e3 := lI_eq (x := A.2.2.1) (y := (gq L s).2.2.1) (by unfold rg; omega) (by unfold rg; omega)
  have e4 := lI_eq (x := A.2.2.2) (y := (gq L s).2.2.2) (by unfold rg; omega) (by unfold rg; omega)
  have key : rX11_isAt s x ρ = true ↔ gq L s = A := by
    unfold rX11_isAt
    rw [g1, g2, g3, g4, am.1, am.2.1, am.2.2.1, am.2.2.2]
    by_cases c1 : A.1 = (gq L s).1
    · rw [if_pos (e1.mpr c1)]
      by_cases c2 : A.2.1 = (gq L s).2.1
      · rw [if_pos (e2.mpr c2)]
        by_cases c3 : A.2.2.1 = (gq L s).2.2.1
        · rw [if_pos (e3.mpr c3)]
          by_cases c4 : A.2.2.2 = (gq L s).2.2.2
          · rw [if_pos (e4.mpr c4)]
            exact ⟨fun _ => (mx_ext c1 c2 c3 c4).symm, fun _ => rfl⟩
          · rw [if_neg (fun z => c4 (e4.mp z))]
            exact ⟨fun z => absurd z (by decide), fun z => absurd (by rw [z]) c4⟩
        · rw [if_neg (fun z => c3 (e3.mp z))]
          exact ⟨fun z => absurd z (by decide), fun z => absurd (by rw [z]) c3⟩
      · rw [if_neg (fun z => c2 (e2.mp z))]
        exact ⟨fun z => absurd z (by decide), fun z => absurd (by rw [z]) c2⟩
    · rw [if_neg (fun z => c1 (e1.mp z))]
      exact ⟨fun z => absurd z (by decide), fun z => absurd (by rw [z]) c1⟩
  by_cases c : gq L s = A
  · rw [if_pos c, if_pos (key.mpr c)]
  · rw [if_neg c, if_neg (fun z => c (key.mp z))]
/-- the class's exchange -/
theorem rc_exch {σ : Sg} {L : List Mx} {Q : List (List Mx)} {q : Nat} {I : Ims} {T : List Int32} {fa : Int32} {B : Bk} {sd : Int32} {A : Mx} {i s : Nat} {x : Int32} (h : RC σ L Q q I T fa B sd) (hs : s < L.length) (ha : At σ i A) (hA : okM A) : (rX10_exchange i s q L.length x σ = if gq L s = A then 0 else 1) ∧ RC (sX10_exchange i s q L.length x σ) (L.set s A) (psh Q L) ((q + 1) % 20) I T fa B sd ∧ (∀ a, 159 ≤ a → (sX10_exchange i s q L.length x σ).1 a = σ.1 a) := by
  have hq := h.2.1.1
  obtain ⟨r1, r2⟩ := rc_rem h
  have es : sX10_exchange i s q L.length x σ = stS 2 i s (sX4_remember 1 2 q L.length σ) := by
    unfold sX10_exchange
    split <;> rfl
  have r3 : ∀ a, 159 ≤ a → (sX4_remember 1 2 q L.length σ).1 a = σ.1 a := fun a ha => rem_160 hq ha
  rw [es]
  unfold rX10_exchange
  generalize sX4_remember 1 2 q L.length σ = ρ at *
  have ha' : At ρ i A := at_fr2 (by rw [r2]) ha
  refine ⟨?_, r1.shelf (fun a _ _ h2 => st_1 h2) rfl (sh_store (by decide) r1.1 ha' hA), fun a ha2 => by rw [st_1 (by omega), r3 a ha2]⟩
  have k := st_B r1.1 hs ha' hA.2
  by_cases c : gq L s = A
  · rw [if_pos c, if_neg (fun z => k.mp z c)]
  · rw [if_neg c, if_pos (k.mpr c)]
/-- the class's place -/
theorem rc_place {σ : Sg} {L : List Mx} {Q : List (List Mx)} {q : Nat} {I : Ims} {T : List Int32} {fa : Int32} {B : Bk} {sd : Int32} {A : Mx} {i : Nat} (h : RC σ L Q q I T fa B sd) (hn : L.length < 12) (ha : At σ i A) (hA : okM A) : RC (sX10_place i q L.length σ) (L ++ [A]) (psh Q L) ((q + 1) % 20) I T fa B sd ∧ (∀ a, 159 ≤ a → (sX10_place i q L.length σ).1 a = σ.1 a) ∧ (sX10_place i q L.length σ).2 = σ.2 := by
  have hq := h.2.1.1
  obtain ⟨r1, r2⟩ := rc_rem h
  unfold sX10_place
  have r3 : ∀ a, 159 ≤ a → (sX4_remember 1 2 q L.length σ).1 a = σ.1 a := fun a ha => rem_160 hq ha
  generalize sX4_remember 1 2 q L.length σ = ρ at *
  have ha' : At ρ i A := at_fr2 (by rw [r2]) ha
  exact ⟨r1.shelf (fun a _ h1 h2 => ad_1 h1 h2) rfl (sh_add (by decide) r1.1 hn ha' hA), fun a ha2 => by rw [ad_1 (by omega) (by omega), r3 a ha2], by rw [← r2]; rfl⟩
