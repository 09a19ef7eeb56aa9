/-! The state of both, by the squares that they hold. -/
def ent (A : Mx) (j : Nat) : Int := if j = 0 then A.1 else if j = 1 then A.2.1 else if j = 2 then A.2.2.1 else A.2.2.2
def gq (L : List Mx) (s : Nat) : Mx := L.getD s mo
def cel (L : List Mx) (i : Nat) : Int := ent (gq L (i / 4)) (i % 4)
def Rep (f : Nat → Int32) (o : Nat) (L : List Mx) : Prop := ∀ i, i < 4 * L.length → f (o + i) = iI (cel L i)
def okL (L : List Mx) : Prop := L.length ≤ 12 ∧ ∀ A ∈ L, okM A
theorem gq_mem {L : List Mx} {s : Nat} (h : s < L.length) : gq L s ∈ L := by
  unfold gq
  rw [List.getD_eq_getElem?_getD, List.getElem?_eq_getElem h]
  exact List.getElem_mem h
theorem okL_at {L : List Mx} (h : okL L) {s : Nat} (hs : s < L.length) : okM (gq L s) := h.2 _ (gq_mem hs)
theorem cel_at (L : List Mx) (s : Nat) {j : Nat} (hj : j < 4) : cel L (4 * s + j) = ent (gq L s) j := by
  unfold cel
  rw [Nat.mul_add_div (by omega), Nat.div_eq_of_lt hj, Nat.add_zero, Nat.mul_add_mod, Nat.mod_eq_of_lt hj]
theorem rep_at {f : Nat → Int32} {o : Nat} {L : List Mx} (h : Rep f o L) {s : Nat} (hs : s < L.length) {j : Nat} (hj : j < 4) : f (o + (4 * s + j)) = iI (ent (gq L s) j) := by
  rw [h _ (by omega), cel_at L s hj]
theorem rep_cp {f g : Nat → Int32} {o o' : Nat} {L : List Mx} (h : Rep f o L) (e : ∀ i, i < 4 * L.length → g (o' + i) = f (o + i)) : Rep g o' L := fun i hi => by rw [e i hi]; exact h i hi
theorem div4 (i : Nat) : ∃ s j, i = 4 * s + j ∧ j < 4 := ⟨i / 4, i % 4, by omega, by omega⟩
theorem rep_mk {f : Nat → Int32} {o : Nat} {L : List Mx} (h : ∀ s, s < L.length → ∀ j, j < 4 → f (o + (4 * s + j)) = iI (ent (gq L s) j)) : Rep f o L := by
  intro i hi
  obtain ⟨s, j, rfl, hj⟩ := div4 i
  rw [cel_at L s hj]
  exact h s (by omega) j hj
theorem gq_app {L : List Mx} {A : Mx} {s : Nat} : gq (L ++ [A]) s = if s < L.length then gq L s else if s = L.length then A else mo := by
  unfold gq
  rw [List.getD_eq_getElem?_getD, List.getD_eq_getElem?_getD]
  by_cases c : s < L.length
  · rw [List.getElem?_append_left c, if_pos c]
  · rw [List.getElem?_append_right (by omega), if_neg c]
    by_cases c2 : s = L.length
    · rw [if_pos c2, c2, Nat.sub_self]; rfl
    · rw [if_neg c2, List.getElem?_eq_none_iff.mpr (by simp; omega)]; rfl
theorem gq_set {L : List Mx} {A : Mx} {s k : Nat} (hk : k < L.length) : gq (L.set s A) k = if k = s then A else gq L k := by
  unfold gq
  rw [List.getD_eq_getElem?_getD, List.getD_eq_getElem?_getD, List.getElem?_set]
  by_cases c : s = k
  · subst c
    rw [if_pos rfl, if_pos hk, if_pos rfl]; rfl
  · rw [if_neg c, if_neg (fun z => c z.symm)]
theorem gq_del {L : List Mx} {s k : Nat} : gq (L.eraseIdx s) k = if k < s then gq L k else gq L (k + 1) := by
  unfold gq
  rw [List.getD_eq_getElem?_getD, List.getElem?_eraseIdx]
  by_cases c : k < s
  · rw [if_pos c, if_pos c, List.getD_eq_getElem?_getD]
  · rw [if_neg c, if_neg c, List.getD_eq_getElem?_getD]
theorem rep_push {f g : Nat → Int32} {o : Nat} {L : List Mx} {A : Mx} (h : Rep f o L) (h1 : ∀ i, i < 4 * L.length → g (o + i) = f (o + i)) (h2 : ∀ j, j < 4 → g (o + (4 * L.length + j)) = iI (ent A j)) : Rep g o (L ++ [A]) := by
  apply rep_mk
  intro s hs j hj
  rw [List.length_append, List.length_singleton] at hs
  rw [gq_app]
  by_cases c : s < L.length
  · rw [if_pos c, h1 _ (by omega), rep_at h c hj]
  · rw [if_neg c, if_pos (by omega), show s = L.length by omega]
    exact h2 j hj
theorem rep_set {f g : Nat → Int32} {o s : Nat} {L : List Mx} {A : Mx} (h : Rep f o L) (h1 : ∀ k, k < L.length → k ≠ s → ∀ j, j < 4 → g (o + (4 * k + j)) = f (o + (4 * k + j))) (h2 : ∀ j, j < 4 → g (o + (4 * s + j)) = iI (ent A j)) : Rep g o (L.set s A) := by
  apply rep_mk
  intro k hk j hj
  rw [List.length_set] at hk
  rw [gq_set hk]
  by_cases c : k = s
  · rw [if_pos c, c]; exact h2 j hj
  · rw [if_neg c, h1 k hk c j hj]; exact rep_at h hk hj
theorem rep_del {f g : Nat → Int32} {o s : Nat} {L : List Mx} (hs : s < L.length) (h : Rep f o L) (h1 : ∀ i, i < 4 * s → g (o + i) = f (o + i)) (h2 : ∀ i, 4 * s ≤ i → i < 4 * (L.length - 1) → g (o + i) = f (o + (i + 4))) : Rep g o (L.eraseIdx s) := by
  apply rep_mk
  intro k hk j hj
  rw [List.length_eraseIdx, if_pos hs] at hk
  rw [gq_del]
  by_cases c : k < s
  · rw [if_pos c, h1 _ (by omega)]; exact rep_at h (by omega) hj
  · rw [if_neg c, h2 _ (by omega) (by omega), show 4 * k + j + 4 = 4 * (k + 1) + j by omega]
    exact rep_at h (by omega) hj
theorem okL_app {L : List Mx} {A : Mx} (h : okL L) (hn : L.length < 12) (hA : okM A) : okL (L ++ [A]) := by
  refine ⟨by rw [List.length_append, List.length_singleton]; omega, fun B hB => ?_⟩
  rcases List.mem_append.mp hB with q | q
  · exact h.2 B q
  · rw [List.mem_singleton.mp q]; exact hA
theorem okL_set {L : List Mx} {A : Mx} {s : Nat} (h : okL L) (hA : okM A) : okL (L.set s A) := by
  refine ⟨by rw [List.length_set]; exact h.1, fun B hB => ?_⟩
  rcases List.mem_or_eq_of_mem_set hB with q | q
  · exact h.2 B q
  · rw [q]; exact hA
theorem okL_del {L : List Mx} {s : Nat} (h : okL L) : okL (L.eraseIdx s) := by
  refine ⟨by rw [List.length_eraseIdx]; have := h.1; split <;> omega, fun B hB => h.2 B (List.mem_of_mem_eraseIdx hB)⟩
theorem iI_lI {z : Int} (h : -2147483648 ≤ z ∧ z ≤ 2147483647) : (iI z).toInt64 = lI z := by
  rw [lI_i32]
  unfold iI
  rw [Int32.toInt_ofInt_of_le (by omega) (by omega)]
theorem ent_bd {A : Mx} (h : bdM A) (j : Nat) : -1000000 ≤ ent A j ∧ ent A j ≤ 1000000 := by
  unfold bdM at h
  unfold ent
  split
  · omega
  · split
    · omega
    · split <;> omega
/-! The class's shelves. -/
def ShC (σ : Sg) (k c : Nat) (L : List Mx) : Prop := σ.1 k 1 = nI L.length ∧ okL L ∧ Rep (σ.1 c) 0 L
theorem ShC.fr {σ τ : Sg} {k c : Nat} {L : List Mx} (h1 : τ.1 k = σ.1 k) (h2 : τ.1 c = σ.1 c) (h : ShC σ k c L) : ShC τ k c L := by
  unfold ShC at *; rw [h1, h2]; exact h
theorem ShC.szok {σ : Sg} {k c : Nat} {L : List Mx} (h : ShC σ k c L) : SzOk σ k := by
  unfold SzOk sz
  have := h.2.1.1
  rw [h.1, nI_clamp (by omega)]
  exact ⟨rfl, this⟩
theorem ld_at {σ : Sg} {c i s : Nat} {L : List Mx} (h : Rep (σ.1 c) 0 L) (ok : okL L) (hs : s < L.length) : At (ldS c i s σ) i (gq L s) := by
  have b := (okL_at ok hs).2
  have e0 : σ.1 c (s * 4) = iI (gq L s).1 := by
    have := rep_at h hs (j := 0) (by omega)
    rw [show 0 + (4 * s + 0) = s * 4 by omega] at this; exact this
  have e1 : σ.1 c (s * 4 + 1) = iI (gq L s).2.1 := by
    have := rep_at h hs (j := 1) (by omega)
    rw [show 0 + (4 * s + 1) = s * 4 + 1 by omega] at this; exact this
  have e2 : σ.1 c (s * 4 + 2) = iI (gq L s).2.2.1 := by
    have := rep_at h hs (j := 2) (by omega)
    rw [show 0 + (4 * s + 2) = s * 4 + 2 by omega] at this; exact this
  have e3 : σ.1 c (s * 4 + 3) = iI (gq L s).2.2.2 := by
    have := rep_at h hs (j := 3) (by omega)
    rw [show 0 + (4 * s + 3) = s * 4 + 3 by omega] at this; exact this
  unfold bdM at b
  unfold ldS
  rw [e0, e1, e2, e3, iI_lI (by omega), iI_lI (by omega), iI_lI (by omega), iI_lI (by omega)]
  refine ⟨?_, ?_, ?_, ?_⟩ <;> simp [sX6_set, u2]
theorem at_ent {σ : Sg} {i : Nat} {A : Mx} (h : At σ i A) {j : Nat} (hj : j < 4) : (σ.2 i j).toInt32 = iI (ent A j) := by
  obtain ⟨h1, h2, h3, h4⟩ := h
  have : j = 0 ∨ j = 1 ∨ j = 2 ∨ j = 3 := by omega
  rcases this with rfl | rfl | rfl | rfl
  · rw [h1, lI_iI]; rfl
  · rw [h2, lI_iI]; rfl
  · rw [h3, lI_iI]; rfl
  · rw [h4, lI_iI]; rfl
theorem st_at {σ : Sg} {c i s : Nat} : (∀ j, j < 4 → (stS c i s σ).1 c (s * 4 + j) = (σ.2 i j).toInt32) ∧ (∀ m, m < s * 4 ∨ s * 4 + 4 ≤ m → (stS c i s σ).1 c m = σ.1 c m) := by
  unfold stS
  dsimp only
  refine ⟨fun j hj => ?_, fun m hm => ?_⟩
  · have : j = 0 ∨ j = 1 ∨ j = 2 ∨ j = 3 := by omega
    rcases this with rfl | rfl | rfl | rfl
    · rw [u2_j (by omega), u2_j (by omega), u2_j (by omega), Nat.add_zero, u2_eq]
    · rw [u2_j (by omega), u2_j (by omega), u2_eq]
    · rw [u2_j (by omega), u2_eq]
    · rw [u2_eq]
  · rw [u2_j (by omega), u2_j (by omega), u2_j (by omega), u2_j (by omega)]
theorem sh_add {σ : Sg} {k c i : Nat} {L : List Mx} {A : Mx} (hkc : k ≠ c) (h : ShC σ k c L) (hn : L.length < 12) (ha : At σ i A) (hA : okM A) : ShC (adS k c i L.length σ) k c (L ++ [A]) := by
  obtain ⟨h1, h2, h3⟩ := h
  obtain ⟨s1, s2⟩ := st_at (σ := σ) (c := c) (i := i) (s := L.length)
  refine ⟨?_, okL_app h2 hn hA, ?_⟩
  · unfold adS
    dsimp only
    rw [u2_eq, stS_k hkc, h1, nI_1, List.length_append, List.length_singleton]
  · unfold adS
    dsimp only
    apply rep_push h3
    · intro m hm
      rw [u2_k hkc.symm, s2 _ (by omega)]
    · intro j hj
      rw [u2_k hkc.symm, show 0 + (4 * L.length + j) = L.length * 4 + j by omega, s1 j hj, at_ent ha hj]
theorem sh_store {σ : Sg} {k c i s : Nat} {L : List Mx} {A : Mx} (hkc : k ≠ c) (h : ShC σ k c L) (ha : At σ i A) (hA : okM A) : ShC (stS c i s σ) k c (L.set s A) := by
  obtain ⟨h1, h2, h3⟩ := h
  obtain ⟨s1, s2⟩ := st_at (σ := σ) (c := c) (i := i) (s := s)
  refine ⟨by rw [stS_k hkc, h1, List.length_set], okL_set h2 hA, ?_⟩
  apply rep_set h3
  · intro m hm hne j hj
    rw [s2 _ (by omega)]
  · intro j hj
    rw [show 0 + (4 * s + j) = s * 4 + j by omega, s1 j hj, at_ent ha hj]
/-- whether the square is another one -/
theorem st_B {σ : Sg} {k c i s : Nat} {L : List Mx} {A : Mx} (h : ShC σ k c L) (hs : s < L.length) (ha : At σ i A) (hA : bdM A) : stB c i s σ = true ↔ gq L s ≠ A := by
  obtain ⟨h1, h2, h3⟩ := h
  have b := (okL_at h2 hs).2
  have ld := ld_at (i := 0) h3 h2 hs
  unfold ldS at ld
  obtain ⟨g0, g1, g2, g3⟩ := ld
  have g0' : (σ.1 c (s * 4)).toInt64 = lI (gq L s).1 := by rw [← g0]; simp [sX6_set, u2]
  have g1' : (σ.1 c (s * 4 + 1)).toInt64 = lI (gq L s).2.1 := by rw [← g1]; simp [sX6_set, u2]
  have g2' : (σ.1 c (s * 4 + 2)).toInt64 = lI (gq L s).2.2.1 := by rw [← g2]; simp [sX6_set, u2]
  have g3' : (σ.1 c (s * 4 + 3)).toInt64 = lI (gq L s).2.2.2 := by rw [← g3]; simp [sX6_set, u2]
  unfold stB
  rw [Nat.add_zero, g0', g1', g2', g3', ha.1, ha.2.1, ha.2.2.1, ha.2.2.2]
  unfold bdM at b hA
  have e1 := lI_eq (x := (gq L s).1) (y := A.1) (by unfold rg; omega) (by unfold rg; omega)
  have e2 := lI_eq (x := (gq L s).2.1) (y := A.2.1) (by unfold rg; omega) (by unfold rg; omega)
  have e3 := lI_eq (x := (gq L s).2.2.1) (y := A.2.2.1) (by unfold rg; omega) (by unfold rg; omega)
  have e4 := lI_eq (x := (gq L s).2.2.2) (y := A.2.2.2) (by unfold rg; omega) (by unfold rg; omega)
  by_cases c1 : (gq L s).1 = A.1
  · rw [if_pos (e1.mpr c1)]
    by_cases c2 : (gq L s).2.1 = A.2.1
    · rw [if_pos (e2.mpr c2)]
      by_cases c3 : (gq L s).2.2.1 = A.2.2.1
      · rw [if_pos (e3.mpr c3)]
        by_cases c4 : (gq L s).2.2.2 = A.2.2.2
        · rw [if_pos (e4.mpr c4)]
          exact ⟨fun z => absurd z (by decide), fun z => absurd (mx_ext c1 c2 c3 c4) z⟩
        · rw [if_neg (fun z => c4 (e4.mp z))]
          exact ⟨fun _ z => c4 (by rw [z]), fun _ => rfl⟩
      · rw [if_neg (fun z => c3 (e3.mp z))]
        exact ⟨fun _ z => c3 (by rw [z]), fun _ => rfl⟩
    · rw [if_neg (fun z => c2 (e2.mp z))]
      exact ⟨fun _ z => c2 (by rw [z]), fun _ => rfl⟩
  · rw [if_neg (fun z => c1 (e1.mp z))]
    exact ⟨fun _ z => c1 (by rw [z]), fun _ => rfl⟩
theorem cpy_at {f : Nat → Nat → Int32} {k0 k sp dp m i : Nat} : cpy f k0 k sp dp m k i = if dp ≤ i ∧ i < dp + m then f k0 (sp + (i - dp)) else f k i := by
  unfold cpy va_cpy
  rw [if_pos rfl]
theorem cpy_ne {f : Nat → Nat → Int32} {k0 k sp dp m a : Nat} (h : a ≠ k) : cpy f k0 k sp dp m a = f a := funext fun _ => if_neg h
theorem sh_cf {σ : Sg} {k c i c2 : Nat} {L : List Mx} (hic : i ≠ c) (hkc : k ≠ c) (h : ShC σ i c2 L) : ShC (cfS k c i c2 L.length σ) k c L := by
  obtain ⟨h1, h2, h3⟩ := h
  refine ⟨?_, h2, ?_⟩
  · unfold cfS
    dsimp only
    rw [u2_eq, cpy_ne hic, h1]
  · unfold cfS
    dsimp only
    apply rep_cp h3
    intro j hj
    rw [u2_k hkc.symm, cpy_at, if_pos (by omega), show 0 + (0 + j - 0) = 0 + j by omega]
theorem cf_1 {k c i c2 n a : Nat} {σ : Sg} (h1 : a ≠ k) (h2 : a ≠ c) : (cfS k c i c2 n σ).1 a = σ.1 a := by
  unfold cfS
  dsimp only
  rw [u2k h1, cpy_ne h2]
theorem sh_rm {σ : Sg} {k c s : Nat} {L : List Mx} (hkc : k ≠ c) (h : ShC σ k c L) (hs : s < L.length) : ShC (rmS k c s L.length σ) k c (L.eraseIdx s) := by
  obtain ⟨h1, h2, h3⟩ := h
  refine ⟨?_, okL_del h2, ?_⟩
  · unfold rmS
    dsimp only
    rw [u2_eq, cpy_ne hkc, h1, List.length_eraseIdx, if_pos hs, show (1 : Int32) = nI 1 from rfl, pk_sub (by omega)]
  · unfold rmS
    dsimp only
    apply rep_del hs h3
    · intro i hi
      rw [u2_k hkc.symm, cpy_at, if_neg (by omega)]
    · intro i hi hl
      rw [u2_k hkc.symm, cpy_at, if_pos (by omega), show s * 4 + 4 + (0 + i - s * 4) = 0 + (i + 4) by omega]
theorem rm_1 {k c s n a : Nat} {σ : Sg} (h1 : a ≠ k) (h2 : a ≠ c) : (rmS k c s n σ).1 a = σ.1 a := by
  unfold rmS
  dsimp only
  rw [u2k h1, cpy_ne h2]
theorem st_1 {c i s a : Nat} {σ : Sg} (h : a ≠ c) : (stS c i s σ).1 a = σ.1 a := funext fun _ => stS_k h
theorem ad_1 {k c i n a : Nat} {σ : Sg} (h1 : a ≠ k) (h2 : a ≠ c) : (adS k c i n σ).1 a = σ.1 a := by
  unfold adS
  dsimp only
  rw [u2k h1, st_1 h2]
/-! The parts of the class's state. -/
def gl (Q : List (List Mx)) (e : Nat) : List Mx := Q.getD e []
def C2 (σ : Sg) (Q : List (List Mx)) (q : Nat) : Prop := q < 20 ∧ σ.1 3 1 = nI q ∧ σ.1 3 2 = nI Q.length ∧ Q.length ≤ 20 ∧ (∀ j, j < 20 → SzOk σ (5 + 2 * j)) ∧ ∀ e, e < Q.length → ShC σ (5 + 2 * ((q + 20 - Q.length + e) % 20)) (5 + 2 * ((q + 20 - Q.length + e) % 20) + 1) (gl Q e)
abbrev Ims : Type := Nat → Option (List Mx × Int32)
def C3 (σ : Sg) (I : Ims) : Prop := ∀ i, i < 2 → SzOk σ (153 + 3 * i + 1) ∧ (I i = none → σ.1 (153 + 3 * i) 2 = 0) ∧ ∀ p, I i = some p → σ.1 (153 + 3 * i) 2 = 1 ∧ ShC σ (153 + 3 * i + 1) (153 + 3 * i + 2) p.1 ∧ σ.1 (153 + 3 * i) 1 = p.2 ∧ 0 ≤ p.2
def C4 (σ : Sg) (T : List Int32) (fa : Int32) : Prop := σ.1 45 1 = nI T.length ∧ T.length ≤ 60 ∧ (∀ i, i < T.length → σ.1 46 i = T.getD i 0) ∧ σ.1 45 2 = fa
abbrev Bk : Type := List (Int32 × Int32 × Bool)
def gb (B : Bk) (i : Nat) : Int32 × Int32 × Bool := B.getD i (0, 0, false)
def C5 (σ : Sg) (B : Bk) : Prop := σ.1 47 3 = nI B.length ∧ B.length ≤ 20 ∧ ∀ i, i < B.length → σ.1 48 i = (gb B i).1 ∧ σ.1 49 i = (gb B i).2.1 ∧ σ.1 50 i = bI (gb B i).2.2
def C6 (σ : Sg) (sd : Int32) : Prop := σ.1 0 9 = sd ∧ 0 ≤ sd
def C7 (σ : Sg) : Prop := (∀ s, s < 12 → KinC σ (65 + 7 * s) (65 + 7 * s + 1) (65 + 7 * s + 2) (65 + 7 * s + 3)) ∧ KinC σ 53 54 55 56
theorem SzOk.fr {σ τ : Sg} {k : Nat} (e : τ.1 k = σ.1 k) (h : SzOk σ k) : SzOk τ k := by unfold SzOk sz at *; rw [e]; exact h
theorem C2.fr {σ τ : Sg} {Q : List (List Mx)} {q : Nat} (e : ∀ a, a = 3 ∨ (5 ≤ a ∧ a ≤ 44) → τ.1 a = σ.1 a) (h : C2 σ Q q) : C2 τ Q q := by
  obtain ⟨h1, h2, h3, h4, h5, h6⟩ := h
  refine ⟨h1, by rw [e 3 (Or.inl rfl)]; exact h2, by rw [e 3 (Or.inl rfl)]; exact h3, h4, fun j hj => (h5 j hj).fr (e _ (by omega)), fun d hd => (h6 d hd).fr (e _ ?_) (e _ ?_)⟩
  · have := Nat.mod_lt (q + 20 - Q.length + d) (show 0 < 20 by omega); omega
  · have := Nat.mod_lt (q + 20 - Q.length + d) (show 0 < 20 by omega); omega
theorem C3.fr {σ τ : Sg} {I : Ims} (e : ∀ a, 153 ≤ a → a ≤ 158 → τ.1 a = σ.1 a) (h : C3 σ I) : C3 τ I := by
  intro i hi
  obtain ⟨h1, h2, h3⟩ := h i hi
  refine ⟨h1.fr (e _ (by omega) (by omega)), fun z => by rw [e _ (by omega) (by omega)]; exact h2 z, fun p hp => ?_⟩
  obtain ⟨g1, g2, g3, g4⟩ := h3 p hp
  exact ⟨by rw [e _ (by omega) (by omega)]; exact g1, g2.fr (e _ (by omega) (by omega)) (e _ (by omega) (by omega)), by rw [e _ (by omega) (by omega)]; exact g3, g4⟩
theorem C4.fr {σ τ : Sg} {T : List Int32} {fa : Int32} (e : ∀ a, 45 ≤ a → a ≤ 46 → τ.1 a = σ.1 a) (h : C4 σ T fa) : C4 τ T fa := by
  unfold C4 at *
  rw [e 45 (by omega) (by omega), e 46 (by omega) (by omega)]; exact h
theorem C5.fr {σ τ : Sg} {B : Bk} (e : ∀ a, 47 ≤ a → a ≤ 50 → τ.1 a = σ.1 a) (h : C5 σ B) : C5 τ B := by
  unfold C5 at *
  rw [e 47 (by omega) (by omega), e 48 (by omega) (by omega), e 49 (by omega) (by omega), e 50 (by omega) (by omega)]; exact h
theorem C6.fr {σ τ : Sg} {sd : Int32} (e : τ.1 0 = σ.1 0) (h : C6 σ sd) : C6 τ sd := by
  unfold C6 at *
  rw [e]; exact h
theorem C7.fr {σ τ : Sg} (e : ∀ a, (53 ≤ a ∧ a ≤ 59) ∨ (65 ≤ a ∧ a ≤ 148) → τ.1 a = σ.1 a ∧ τ.2 a = σ.2 a) (h : C7 σ) : C7 τ := by
  refine ⟨fun s hs => (h.1 s hs).fr ?_ ?_ ?_ ?_, h.2.fr ?_ ?_ ?_ ?_⟩
  · exact (e _ (by omega)).2
  · exact (e _ (by omega)).1
  · exact (e _ (by omega)).1
  · exact (e _ (by omega)).1
  · exact (e _ (by omega)).2
  · exact (e _ (by omega)).1
  · exact (e _ (by omega)).1
  · exact (e _ (by omega)).1
theorem C7.w {σ : Sg} (h : C7 σ) : WAll σ ∧ WOk σ 55 := ⟨fun s hs => (h.1 s hs).w, h.2.w⟩
/-- the class's state -/
def RC (σ : Sg) (L : List Mx) (Q : List (List Mx)) (q : Nat) (I : Ims) (T : List Int32) (fa : Int32) (B : Bk) (sd : Int32) : Prop := ShC σ 1 2 L ∧ C2 σ Q q ∧ C3 σ I ∧ C4 σ T fa ∧ C5 σ B ∧ C6 σ sd ∧ C7 σ
theorem RC.fr {σ τ : Sg} {L : List Mx} {Q : List (List Mx)} {q : Nat} {I : Ims} {T : List Int32} {fa : Int32} {B : Bk} {sd : Int32} (e : ∀ a, a < 159 → τ.1 a = σ.1 a) (e2 : ∀ a, (53 ≤ a ∧ a ≤ 59) ∨ (65 ≤ a ∧ a ≤ 148) → τ.2 a = σ.2 a) (h : RC σ L Q q I T fa B sd) : RC τ L Q q I T fa B sd := by
  obtain ⟨h1, h2, h3, h4, h5, h6, h7⟩ := h
  exact ⟨h1.fr (e _ (by omega)) (e _ (by omega)), h2.fr (fun a ha => e a (by omega)), h3.fr (fun a _ _ => e a (by omega)), h4.fr (fun a _ _ => e a (by omega)), h5.fr (fun a _ _ => e a (by omega)), h6.fr (e _ (by omega)), h7.fr (fun a ha => ⟨e a (by omega), e2 a ha⟩)⟩
theorem RC.shelf {σ τ : Sg} {L L' : List Mx} {Q : List (List Mx)} {q : Nat} {I : Ims} {T : List Int32} {fa : Int32} {B : Bk} {sd : Int32} (e : ∀ a, a < 159 → a ≠ 1 → a ≠ 2 → τ.1 a = σ.1 a) (e2 : τ.2 = σ.2) (hL : ShC τ 1 2 L') (h : RC σ L Q q I T fa B sd) : RC τ L' Q q I T fa B sd := by
  obtain ⟨h1, h2, h3, h4, h5, h6, h7⟩ := h
  exact ⟨hL, h2.fr (fun a ha => e a (by omega) (by omega) (by omega)), h3.fr (fun a _ _ => e a (by omega) (by omega) (by omega)), h4.fr (fun a _ _ => e a (by omega) (by omega) (by omega)), h5.fr (fun a _ _ => e a (by omega) (by omega) (by omega)), h6.fr (e _ (by omega) (by omega) (by omega)), h7.fr (fun a ha => ⟨e a (by omega) (by omega) (by omega), by rw [e2]⟩)⟩
/-- the past with one more -/
def psh (Q : List (List Mx)) (L : List Mx) : List (List Mx) := (if Q.length = 20 then Q.drop 1 else Q) ++ [L]
theorem gl_app {Q : List (List Mx)} {L : List Mx} {e : Nat} (h : e ≤ Q.length) : gl (Q ++ [L]) e = if e < Q.length then gl Q e else L := by
  unfold gl
  rw [List.getD_eq_getElem?_getD, List.getD_eq_getElem?_getD]
  by_cases c : e < Q.length
  · rw [List.getElem?_append_left c, if_pos c]
  · rw [List.getElem?_append_right (by omega), if_neg c, show e - Q.length = 0 by omega]; rfl
theorem gl_drop (Q : List (List Mx)) (e : Nat) : gl (Q.drop 1) e = gl Q (e + 1) := by
  unfold gl
  rw [List.getD_eq_getElem?_getD, List.getD_eq_getElem?_getD, List.getElem?_drop, Nat.add_comm]
theorem psh_len {Q : List (List Mx)} (h : Q.length ≤ 20) (L : List Mx) : (psh Q L).length = if Q.length = 20 then 20 else Q.length + 1 := by
  unfold psh
  rw [List.length_append, List.length_singleton]
  split
  · rw [List.length_drop]; omega
  · rfl
theorem rmb_1 {q n a : Nat} {σ : Sg} (h1 : a ≠ 3) (h2 : a ≠ 5 + 2 * q) (h3 : a ≠ 5 + 2 * q + 1) : (sX4_remember 1 2 q n σ).1 a = σ.1 a := by
  unfold sX4_remember
  dsimp only
  rw [u2k h1, u2k h1, cf_1 h2 h3]
theorem rc_rem {σ : Sg} {L : List Mx} {Q : List (List Mx)} {q : Nat} {I : Ims} {T : List Int32} {fa : Int32} {B : Bk} {sd : Int32} (h : RC σ L Q q I T fa B sd) : RC (sX4_remember 1 2 q L.length σ) L (psh Q L) ((q + 1) % 20) I T fa B sd ∧ (sX4_remember 1 2 q L.length σ).2 = σ.2 := by
  obtain ⟨h1, ⟨q1, q2, q3, q4, q5, q6⟩, h3, h4, h5, h6, h7⟩ := h
  have e1 : ∀ a, a ≠ 3 → a ≠ 5 + 2 * q → a ≠ 5 + 2 * q + 1 → (sX4_remember 1 2 q L.length σ).1 a = σ.1 a := fun a => rmb_1
  have e2 : (sX4_remember 1 2 q L.length σ).2 = σ.2 := rfl
  have sl : ShC (sX4_remember 1 2 q L.length σ) (5 + 2 * q) (5 + 2 * q + 1) L := by
    have := sh_cf (k := 5 + 2 * q) (c := 5 + 2 * q + 1) (by omega) (by omega) h1
    refine this.fr ?_ ?_
    · unfold sX4_remember; dsimp only; rw [u2k (by omega), u2k (by omega)]
    · unfold sX4_remember; dsimp only; rw [u2k (by omega), u2k (by omega)]
  have c31 : (cfS (5 + 2 * q) (5 + 2 * q + 1) 1 2 L.length σ).1 3 = σ.1 3 := cf_1 (by omega) (by omega)
  have n1 : (sX4_remember 1 2 q L.length σ).1 3 1 = nI ((q + 1) % 20) := by
    unfold sX4_remember
    dsimp only
    rw [u2_j (by decide), u2_eq, c31, q2, nI_1, show (20 : Int32) = nI 20 from rfl]
    exact pk_rem (by omega) (by omega) (by omega)
  have n2 : (sX4_remember 1 2 q L.length σ).1 3 2 = nI (psh Q L).length := by
    unfold sX4_remember
    dsimp only
    rw [u2_eq, u2_j (by decide), c31, q3, nI_1, psh_len q4]
    unfold rJ9_min_7cf53
    rw [show (20 : Int32) = nI 20 from rfl]
    have e := nI_ltI (a := 20) (b := Q.length + 1) (by omega) (by omega)
    by_cases c : Q.length = 20
    · rw [if_pos (e.mpr (by omega)), if_pos c]
    · rw [if_neg (fun z => by have := e.mp z; omega), if_neg c]
  refine ⟨⟨h1.fr (e1 _ (by omega) (by omega) (by omega)) (e1 _ (by omega) (by omega) (by omega)), ⟨Nat.mod_lt _ (by omega), n1, n2, by rw [psh_len q4]; split <;> omega, fun j hj => ?_, fun e he => ?_⟩, h3.fr (fun a _ _ => e1 a (by omega) (by omega) (by omega)), h4.fr (fun a _ _ => e1 a (by omega) (by omega) (by omega)), h5.fr (fun a _ _ => e1 a (by omega) (by omega) (by omega)), h6.fr (e1 _ (by omega) (by omega) (by omega)), h7.fr (fun a ha => ⟨e1 a (by omega) (by omega) (by omega), by rw [e2]⟩)⟩, e2⟩
  · by_cases c : j = q
    · rw [c]; exact sl.szok
    · exact (q5 j hj).fr (e1 _ (by omega) (by omega) (by omega))
  · rw [psh_len q4] at he ⊢
    by_cases c : Q.length = 20
    · rw [if_pos c] at he ⊢
      have eg : gl (psh Q L) e = if e < 19 then gl Q (e + 1) else L := by
        unfold psh
        rw [if_pos c, gl_app (by rw [List.length_drop]; omega), List.length_drop, gl_drop, c]
      rw [eg]
      by_cases c2 : e < 19
      · rw [if_pos c2]
        have := q6 (e + 1) (by omega)
        rw [c] at this
        have em : ((q + 1) % 20 + 20 - 20 + e) % 20 = (q + 20 - 20 + (e + 1)) % 20 := by omega
        rw [em]
        have ne : (q + 20 - 20 + (e + 1)) % 20 ≠ q := by omega
        exact this.fr (e1 _ (by omega) (by omega) (by omega)) (e1 _ (by omega) (by omega) (by omega))
      · rw [if_neg c2]
        have em : ((q + 1) % 20 + 20 - 20 + e) % 20 = q := by omega
        rw [em]; exact sl
    · rw [if_neg c] at he ⊢
      have eg : gl (psh Q L) e = if e < Q.length then gl Q e else L := by
        unfold psh
        rw [if_neg c, gl_app (by omega)]
      rw [eg]
      by_cases c2 : e < Q.length
      · rw [if_pos c2]
        have := q6 e c2
        have em : ((q + 1) % 20 + 20 - (Q.length + 1) + e) % 20 = (q + 20 - Q.length + e) % 20 := by omega
        rw [em]
        have ne : (q + 20 - Q.length + e) % 20 ≠ q := by omega
        exact this.fr (e1 _ (by omega) (by omega) (by omega)) (e1 _ (by omega) (by omega) (by omega))
      · rw [if_neg c2]
        have em : ((q + 1) % 20 + 20 - (Q.length + 1) + e) % 20 = q := by omega
        rw [em]; exact sl
theorem rem_160 {q n a : Nat} {σ : Sg} (hq : q < 20) (h : 159 ≤ a) : (sX4_remember 1 2 q n σ).1 a = σ.1 a := rmb_1 (by omega) (by omega) (by omega)
