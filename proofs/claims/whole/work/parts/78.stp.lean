/-! Both go the same step. -/
noncomputable section
abbrev Ab : Type := List Mx × List (List Mx) × Ims × List Int32 × Int32 × Bk × Int32
def RCs (σ : Sg) (S : Ab) : Prop := ∃ q, RC σ S.1 S.2.1 q S.2.2.1 S.2.2.2.1 S.2.2.2.2.1 S.2.2.2.2.2.1 S.2.2.2.2.2.2
def RMs (σ : Sg) (S : Ab) : Prop := RM σ S.1 S.2.1 S.2.2.1 S.2.2.2.1 S.2.2.2.2.1 S.2.2.2.2.2.1 S.2.2.2.2.2.2
def Rel (σ : Sg) : Prop := ∃ S, RCs σ S ∧ RMs σ S
def okS (S : Ab) : Prop := okL S.1 ∧ S.2.1.length ≤ 20 ∧ S.2.2.2.1.length ≤ 60 ∧ S.2.2.2.2.2.1.length ≤ 20 ∧ 0 ≤ S.2.2.2.2.2.2 ∧ (∀ e, e < S.2.1.length → okL (gl S.2.1 e)) ∧ ∀ i p, i < 2 → S.2.2.1 i = some p → okL p.1 ∧ 0 ≤ p.2
theorem RCs.ok {σ : Sg} {S : Ab} (h : RCs σ S) : okS S := by
  obtain ⟨q, h1, h2, h3, h4, h5, h6, h7⟩ := h
  exact ⟨h1.2.1, h2.2.2.2.1, h4.2.1, h5.2.1, h6.2, fun e he => (h2.2.2.2.2.2 e he).2.1, fun i p hi hp => ⟨((h3 i hi).2.2 p hp).2.1.2.1, ((h3 i hi).2.2 p hp).2.2.2⟩⟩
abbrev fI : Option FieldType := Option.some Jvm.ClassFile.FieldType.int
def hiS (σ τ : Sg) : Prop := ∀ a, 159 ≤ a → τ.1 a = σ.1 a
def loS (σ τ : Sg) : Prop := ∀ a, a < 159 → τ.1 a = σ.1 a ∧ τ.2 a = σ.2 a
theorem hi_rfl {σ : Sg} : hiS σ σ := fun _ _ => rfl
theorem lo_rfl {σ : Sg} : loS σ σ := fun _ _ => ⟨rfl, rfl⟩
def StC (σ : Sg) (yc : MethodName) (cc : ByteArray) (nc : Nat) (av : List Value) (F : Int32 × Ab) : Prop := ∃ σ1, (∀ (l : Launch) (b : Nat) (cy : Nat → ClassId) (D : va_G), Es l b cy D 7 yc cc fI nc (.ref (b + 0) :: av) σ (some (.int F.1)) σ1) ∧ RCs σ1 F.2 ∧ hiS σ σ1
def StM (σ : Sg) (ym : MethodName) (cm : ByteArray) (nm : Nat) (av : List Value) (F : Int32 × Ab) : Prop := ∃ σ1, (∀ (l : Launch) (b : Nat) (cy : Nat → ClassId) (D : va_G), Es l b cy D 7 ym cm fI nm (.ref (b + 159) :: av) σ (some (.int F.1)) σ1) ∧ RMs σ1 F.2 ∧ loS σ σ1
def StK (σ : Sg) (yc : MethodName) (cc : ByteArray) (nc : Nat) (ym : MethodName) (cm : ByteArray) (nm : Nat) (av : List Value) : Prop := ∃ z σ1 σ2, (∀ (l : Launch) (b : Nat) (cy : Nat → ClassId) (D : va_G), Es l b cy D 7 yc cc fI nc (.ref (b + 0) :: av) σ (some (.int z)) σ1) ∧ (∀ (l : Launch) (b : Nat) (cy : Nat → ClassId) (D : va_G), Es l b cy D 7 ym cm fI nm (.ref (b + 159) :: av) σ1 (some (.int z)) σ2) ∧ Rel σ2
theorem RMs.hi {σ τ : Sg} {S : Ab} (k : hiS σ τ) (h : RMs σ S) : RMs τ S := RM.hi k h
theorem RCs.lo {σ τ : Sg} {S : Ab} (k : loS σ τ) (h : RCs σ S) : RCs τ S := by
  obtain ⟨q, h⟩ := h
  exact ⟨q, h.fr (fun a ha => (k a ha).1) (fun a ha => (k a (by omega)).2)⟩
theorem StK.mk {σ : Sg} {S : Ab} {yc : MethodName} {cc : ByteArray} {nc : Nat} {ym : MethodName} {cm : ByteArray} {nm : Nat} {av : List Value} {F : Int32 × Ab} (hm : RMs σ S) (c : StC σ yc cc nc av F) (m : ∀ ρ, RMs ρ S → StM ρ ym cm nm av F) : StK σ yc cc nc ym cm nm av := by
  obtain ⟨σ1, e1, r1, f1⟩ := c
  obtain ⟨σ2, e2, r2, f2⟩ := m σ1 (hm.hi f1)
  exact ⟨F.1, σ1, σ2, e1, e2, F.2, r1.lo f2, r2⟩
/-- how a class's step is shown: the contract's own answer and end are F's -/
theorem StC.of {σ σ1 : Sg} {yc : MethodName} {cc : ByteArray} {nc : Nat} {av : List Value} {F : Int32 × Ab} {z : Int32} (e : ∀ (l : Launch) (b : Nat) (cy : Nat → ClassId) (D : va_G), Es l b cy D 7 yc cc fI nc (.ref (b + 0) :: av) σ (some (.int z)) σ1) (hz : z = F.1) (r : RCs σ1 F.2) (f : hiS σ σ1) : StC σ yc cc nc av F := by
  subst hz; exact ⟨σ1, e, r, f⟩
theorem StM.of {σ σ1 : Sg} {yc : MethodName} {cc : ByteArray} {nc : Nat} {av : List Value} {F : Int32 × Ab} {z : Int32} (e : ∀ (l : Launch) (b : Nat) (cy : Nat → ClassId) (D : va_G), Es l b cy D 7 yc cc fI nc (.ref (b + 159) :: av) σ (some (.int z)) σ1) (hz : z = F.1) (r : RMs σ1 F.2) (f : loS σ σ1) : StM σ yc cc nc av F := by
  subst hz; exact ⟨σ1, e, r, f⟩
theorem nIe {n c : Nat} (h : n < 2 ^ 31) (hc : c < 2 ^ 31) : nI n = nI c ↔ n = c := nI_eq h hc
theorem getD_app {α : Type} {T : List α} {x d : α} {i : Nat} (h : i ≤ T.length) : (T ++ [x]).getD i d = if i < T.length then T.getD i d else x := by
  rw [List.getD_eq_getElem?_getD, List.getD_eq_getElem?_getD]
  by_cases c : i < T.length
  · rw [List.getElem?_append_left c, if_pos c]
  · rw [List.getElem?_append_right (by omega), if_neg c, show i - T.length = 0 by omega]; rfl
theorem RC.text {σ τ : Sg} {L : List Mx} {Q : List (List Mx)} {q : Nat} {I : Ims} {T T' : List Int32} {fa fa' : Int32} {B : Bk} {sd : Int32} (e : ∀ a, a < 159 → a ≠ 45 → a ≠ 46 → τ.1 a = σ.1 a) (e2 : ∀ a, (53 ≤ a ∧ a ≤ 59) ∨ (65 ≤ a ∧ a ≤ 148) → τ.2 a = σ.2 a) (hT : C4 τ T' fa') (h : RC σ L Q q I T fa B sd) : RC τ L Q q I T' fa' B sd := by
  obtain ⟨h1, h2, h3, h4, h5, h6, h7⟩ := h
  exact ⟨h1.fr (e _ (by omega) (by omega) (by omega)) (e _ (by omega) (by omega) (by omega)), h2.fr (fun a ha => e a (by omega) (by omega) (by omega)), h3.fr (fun a _ _ => e a (by omega) (by omega) (by omega)), hT, h5.fr (fun a _ _ => e a (by omega) (by omega) (by omega)), h6.fr (e _ (by omega) (by omega) (by omega)), h7.fr (fun a ha => ⟨e a (by omega) (by omega) (by omega), e2 a ha⟩)⟩
theorem RC.book {σ τ : Sg} {L : List Mx} {Q : List (List Mx)} {q : Nat} {I : Ims} {T : List Int32} {fa : Int32} {B B' : Bk} {sd : Int32} (e : ∀ a, a < 159 → (a < 47 ∨ 50 < a) → τ.1 a = σ.1 a) (e2 : τ.2 = σ.2) (hB : C5 τ B') (h : RC σ L Q q I T fa B sd) : RC τ L Q q I T fa B' sd := by
  obtain ⟨h1, h2, h3, h4, h5, h6, h7⟩ := h
  exact ⟨h1.fr (e _ (by omega) (by omega)) (e _ (by omega) (by omega)), h2.fr (fun a ha => e a (by omega) (by omega)), h3.fr (fun a _ _ => e a (by omega) (by omega)), h4.fr (fun a _ _ => e a (by omega) (by omega)), hB, h6.fr (e _ (by omega) (by omega)), h7.fr (fun a ha => ⟨e a (by omega) (by omega), by rw [e2]⟩)⟩
theorem RC.sdn {σ τ : Sg} {L : List Mx} {Q : List (List Mx)} {q : Nat} {I : Ims} {T : List Int32} {fa : Int32} {B : Bk} {sd sd' : Int32} (e : ∀ a, a < 159 → a ≠ 0 → τ.1 a = σ.1 a) (e2 : τ.2 = σ.2) (hS : C6 τ sd') (h : RC σ L Q q I T fa B sd) : RC τ L Q q I T fa B sd' := by
  obtain ⟨h1, h2, h3, h4, h5, h6, h7⟩ := h
  exact ⟨h1.fr (e _ (by omega) (by omega)) (e _ (by omega) (by omega)), h2.fr (fun a ha => e a (by omega) (by omega)), h3.fr (fun a _ _ => e a (by omega) (by omega)), h4.fr (fun a _ _ => e a (by omega) (by omega)), h5.fr (fun a _ _ => e a (by omega) (by omega)), hS, h7.fr (fun a ha => ⟨e a (by omega) (by omega), by rw [e2]⟩)⟩
theorem RM.text {σ τ : Sg} {L : List Mx} {Q : List (List Mx)} {I : Ims} {T T' : List Int32} {fa fa' : Int32} {B : Bk} {sd : Int32} (e : ∀ a, a ≠ 159 → a ≠ 164 → 159 ≤ a → τ.1 a = σ.1 a) (e2 : ∀ j, j ≠ 7 → j ≠ 8 → τ.1 159 j = σ.1 159 j) (hT : M4 τ T' fa') (h : RM σ L Q I T fa B sd) : RM τ L Q I T' fa' B sd := by
  obtain ⟨h1, h2, h3, h4, h5, h6⟩ := h
  exact ⟨h1.fr (e _ (by omega) (by omega) (by omega)), h2.fr (e2 _ (by omega) (by omega)) (e _ (by omega) (by omega) (by omega)), h3.fr (e _ (by omega) (by omega) (by omega)) (e _ (by omega) (by omega) (by omega)), hT, h5.fr (e2 _ (by omega) (by omega)) (e _ (by omega) (by omega) (by omega)), by rw [e2 _ (by omega) (by omega)]; exact h6⟩
theorem RM.book {σ τ : Sg} {L : List Mx} {Q : List (List Mx)} {I : Ims} {T : List Int32} {fa : Int32} {B B' : Bk} {sd : Int32} (e : ∀ a, a ≠ 159 → a ≠ 165 → 159 ≤ a → τ.1 a = σ.1 a) (e2 : ∀ j, j ≠ 10 → τ.1 159 j = σ.1 159 j) (hB : M5 τ B') (h : RM σ L Q I T fa B sd) : RM τ L Q I T fa B' sd := by
  obtain ⟨h1, h2, h3, h4, h5, h6⟩ := h
  exact ⟨h1.fr (e _ (by omega) (by omega) (by omega)), h2.fr (e2 _ (by omega)) (e _ (by omega) (by omega) (by omega)), h3.fr (e _ (by omega) (by omega) (by omega)) (e _ (by omega) (by omega) (by omega)), h4.fr (e2 _ (by omega)) (e2 _ (by omega)) (e _ (by omega) (by omega) (by omega)), hB, by rw [e2 _ (by omega)]; exact h6⟩
theorem RM.sdn {σ τ : Sg} {L : List Mx} {Q : List (List Mx)} {I : Ims} {T : List Int32} {fa : Int32} {B : Bk} {sd sd' : Int32} (e : ∀ a, a ≠ 159 → 159 ≤ a → τ.1 a = σ.1 a) (e2 : ∀ j, j ≠ 5 → τ.1 159 j = σ.1 159 j) (hS : τ.1 159 5 = sd') (h : RM σ L Q I T fa B sd) : RM τ L Q I T fa B sd' := by
  obtain ⟨h1, h2, h3, h4, h5, h6⟩ := h
  exact ⟨h1.fr (e _ (by omega) (by omega)), h2.fr (e2 _ (by omega)) (e _ (by omega) (by omega)), h3.fr (e _ (by omega) (by omega)) (e _ (by omega) (by omega)), h4.fr (e2 _ (by omega)) (e2 _ (by omega)) (e _ (by omega) (by omega)), h5.fr (e2 _ (by omega)) (e _ (by omega) (by omega)), hS⟩
/-! feed -/
theorem tx_full {σ : Sg} {T : List Int32} {fa : Int32} (h : C4 σ T fa) : rX7_isFull σ = true ↔ T.length = 60 := by
  obtain ⟨t1, t2, _⟩ := h
  unfold rX7_isFull
  rw [t1]
  have e := nI_ltI (a := T.length) (b := 60) (by omega) (by omega)
  rw [show (60 : Int32) = nI 60 from rfl]
  by_cases c : T.length < 60
  · rw [if_pos (e.mpr c)]; exact ⟨fun z => absurd z (by decide), fun z => by omega⟩
  · rw [if_neg (fun z => c (e.mp z))]; exact ⟨fun _ => by omega, fun _ => rfl⟩
theorem k_feed {σ : Sg} (h : Rel σ) (x : Int32) : StK σ yX10_feed cX10_feed 2 yX11_feed cX11_feed 2 [.int x] := by
  obtain ⟨⟨L, Q, I, T, fa, B, sd⟩, h1, h2⟩ := h
  obtain ⟨q, hc⟩ := id h1
  have c4 := hc.2.2.2.1
  dsimp only at hc c4
  obtain ⟨t1, t2, t3, t4⟩ := id c4
  have x0 : x < 0 ↔ x.toInt < 0 := Int32.lt_iff_toInt_lt
  have x2 : x ≤ 255 ↔ x.toInt ≤ 255 := Int32.le_iff_toInt_le
  have hf := tx_full c4
  have i1 : ∀ ρ : Sg, rX11_in x.toInt64 0 255 ρ = true ↔ 0 ≤ x.toInt ∧ x.toInt ≤ 255 := fun ρ => in_i
  have hf2 : ∀ ρ : Sg, RMs ρ (L, Q, I, T, fa, B, sd) → (ρ.1 159 7 = 60 ↔ T.length = 60) := fun ρ hr => by
    have n1 : ρ.1 159 7 = nI T.length := hr.2.2.2.1.1
    rw [n1, show (60 : Int32) = nI 60 from rfl]; exact nIe (by omega) (by omega)
  by_cases hx : 0 ≤ x.toInt ∧ x.toInt ≤ 255
  · have n0 : ¬ x < 0 := fun z => by have := x0.mp z; omega
    by_cases hT : T.length = 60
    · refine StK.mk (F := (-1000000004, (L, Q, I, T, fa, B, sd))) h2 ?_ (fun ρ hr => ?_)
      · refine StC.of (fun l b cy D => ev_X10_feed (d := 5) t1 t2) ?_ ?_ ?_
        · unfold rX10_feed; rw [if_neg n0, if_pos (x2.mpr hx.2), if_pos (hf.mpr hT)]
        · unfold sX10_feed; rw [if_neg n0, if_pos (x2.mpr hx.2), if_pos (hf.mpr hT)]; exact h1
        · unfold sX10_feed; rw [if_neg n0, if_pos (x2.mpr hx.2), if_pos (hf.mpr hT)]; exact hi_rfl
      · refine StM.of (fun l b cy D => ev_X11_feed (d := 6) hr.2.2.2.1.1 t2) ?_ ?_ ?_
        · unfold rX11_feed; rw [if_pos ((i1 ρ).mpr hx), if_pos ((hf2 ρ hr).mpr hT)]
        · unfold sX11_feed; rw [if_pos ((i1 ρ).mpr hx), if_pos ((hf2 ρ hr).mpr hT)]; exact hr
        · unfold sX11_feed; rw [if_pos ((i1 ρ).mpr hx), if_pos ((hf2 ρ hr).mpr hT)]; exact lo_rfl
    · have hn : ¬ rX7_isFull σ = true := fun z => hT (hf.mp z)
      refine StK.mk (F := (nI (T.length + 1), (L, Q, I, T ++ [x], fa, B, sd))) h2 ?_ (fun ρ hr => ?_)
      · have e1 : sX10_feed T.length x σ = (u2 (u2 σ.1 46 T.length x) 45 1 (nI (T.length + 1)), σ.2) := by
          unfold sX10_feed sX7_append
          rw [if_neg n0, if_pos (x2.mpr hx.2), if_neg hn, if_neg hn, u2_k (by decide), t1, nI_1]
        refine StC.of (fun l b cy D => ev_X10_feed (d := 5) t1 t2) ?_ ?_ ?_
        · unfold rX10_feed rX7_length sX7_append
          rw [if_neg n0, if_pos (x2.mpr hx.2), if_neg hn, if_neg hn]
          dsimp only
          rw [u2_eq, u2_k (by decide), t1, nI_1]
        · rw [e1]
          refine ⟨q, RC.text (σ := σ) (fun a _ h45 h46 => ?_) (fun _ _ => rfl) ⟨?_, ?_, fun i hi => ?_, ?_⟩ hc⟩
          all_goals dsimp only
          · rw [u2k h45, u2k h46]
          · rw [u2_eq, List.length_append, List.length_singleton]
          · rw [List.length_append, List.length_singleton]; omega
          · rw [List.length_append, List.length_singleton] at hi
            rw [getD_app (by omega), u2_k (by decide)]
            by_cases c : i < T.length
            · rw [if_pos c, u2_j (by omega)]; exact t3 i c
            · rw [if_neg c, show i = T.length by omega, u2_eq]
          · rw [u2_j (by decide), u2_k (by decide)]; exact t4
        · rw [e1]; intro a ha; dsimp only; rw [u2k (by omega), u2k (by omega)]
      · obtain ⟨n1, n3, n4⟩ := hr.2.2.2.1
        dsimp only at n1 n3 n4
        have hn2 : ¬ ρ.1 159 7 = 60 := fun z => hT ((hf2 ρ hr).mp z)
        have e1 : sX11_feed T.length x ρ = (u2 (u2 ρ.1 164 T.length x) 159 7 (nI (T.length + 1)), ρ.2) := by
          unfold sX11_feed
          rw [if_pos ((i1 ρ).mpr hx), if_neg hn2, u2_k (by decide), n1, nI_1]
        refine StM.of (fun l b cy D => ev_X11_feed (d := 6) n1 t2) ?_ ?_ ?_
        · unfold rX11_feed
          rw [if_pos ((i1 ρ).mpr hx), if_neg hn2, u2_eq, u2_k (by decide), n1, nI_1]
        · rw [e1]
          refine RM.text (fun a h160 h165 _ => ?_) (fun j h7 _ => ?_) ⟨?_, fun i hi => ?_, ?_⟩ hr
          all_goals dsimp only
          · rw [u2k h160, u2k h165]
          · rw [u2_j h7, u2_k (by decide)]
          · rw [u2_eq, List.length_append, List.length_singleton]
          · rw [List.length_append, List.length_singleton] at hi
            rw [getD_app (by omega), u2_k (by decide)]
            by_cases c : i < T.length
            · rw [if_pos c, u2_j (by omega)]; exact n3 i c
            · rw [if_neg c, show i = T.length by omega, u2_eq]
          · rw [u2_j (by decide), u2_k (by decide)]; exact n4
        · rw [e1]; intro a ha; dsimp only; exact ⟨by rw [u2k (by omega), u2k (by omega)], rfl⟩
  · refine StK.mk (F := (-1000000002, (L, Q, I, T, fa, B, sd))) h2 ?_ (fun ρ hr => ?_)
    · have e1 : sX10_feed T.length x σ = σ := by
        unfold sX10_feed
        by_cases h0 : x.toInt < 0
        · rw [if_pos (x0.mpr h0)]
        · rw [if_neg (fun z => h0 (x0.mp z)), if_neg (fun z => by have := x2.mp z; omega)]
      refine StC.of (fun l b cy D => ev_X10_feed (d := 5) t1 t2) ?_ ?_ ?_
      · unfold rX10_feed
        by_cases h0 : x.toInt < 0
        · rw [if_pos (x0.mpr h0)]
        · rw [if_neg (fun z => h0 (x0.mp z)), if_neg (fun z => by have := x2.mp z; omega)]
      · rw [e1]; exact h1
      · rw [e1]; exact hi_rfl
    · refine StM.of (fun l b cy D => ev_X11_feed (d := 6) hr.2.2.2.1.1 t2) ?_ ?_ ?_
      · unfold rX11_feed; rw [if_neg (fun z => hx ((i1 ρ).mp z))]
      · unfold sX11_feed; rw [if_neg (fun z => hx ((i1 ρ).mp z))]; exact hr
      · unfold sX11_feed; rw [if_neg (fun z => hx ((i1 ρ).mp z))]; exact lo_rfl
/-! fault, tear, seed -/
theorem k_fault {σ : Sg} (h : Rel σ) : StK σ yX10_fault cX10_fault 1 yX11_fault cX11_fault 1 [] := by
  obtain ⟨S, h1, h2⟩ := h
  refine StK.mk (F := (S.2.2.2.2.1, S)) h2 ?_ (fun ρ hr => ?_)
  · obtain ⟨q, hc⟩ := id h1
    exact StC.of (fun l b cy D => ev_X10_fault (d := 6)) hc.2.2.2.1.2.2.2 h1 hi_rfl
  · exact StM.of (fun l b cy D => ev_X11_fault (d := 7)) hr.2.2.2.1.2.2 hr lo_rfl
theorem k_tear {σ : Sg} (h : Rel σ) : StK σ yX10_tear cX10_tear 2 yX11_tear cX11_tear 2 [] := by
  obtain ⟨⟨L, Q, I, T, fa, B, sd⟩, h1, h2⟩ := h
  refine StK.mk (F := (nI B.length, (L, Q, I, T, fa, [], sd))) h2 ?_ (fun ρ hr => ?_)
  · obtain ⟨q, hc⟩ := id h1
    have e1 : sX10_tear σ = (u2 σ.1 47 3 0, σ.2) := rfl
    refine StC.of (fun l b cy D => ev_X10_tear (d := 6)) hc.2.2.2.2.1.1 ?_ ?_
    · rw [e1]
      refine ⟨q, RC.book (σ := σ) (fun a _ ha => ?_) rfl ⟨?_, by simp, fun i hi => by simp at hi⟩ hc⟩
      · exact u2k (by omega)
      · dsimp only; rw [u2_eq]; rfl
    · rw [e1]; intro a ha; exact u2k (by omega)
  · have e1 : sX11_tear ρ = (u2 ρ.1 159 10 0, ρ.2) := rfl
    refine StM.of (fun l b cy D => ev_X11_tear (d := 7)) hr.2.2.2.2.1.1 ?_ ?_
    · rw [e1]
      refine RM.book (fun a h160 _ _ => u2k h160) (fun j hj => u2_j hj) ⟨?_, fun i hi => by simp at hi⟩ hr
      dsimp only; rw [u2_eq]; rfl
    · rw [e1]; intro a ha; exact ⟨u2k (by omega), rfl⟩
theorem k_seed {σ : Sg} (h : Rel σ) (x : Int32) : StK σ yX10_seed cX10_seed 3 yX11_seed cX11_seed 3 [.int x] := by
  obtain ⟨⟨L, Q, I, T, fa, B, sd⟩, h1, h2⟩ := h
  obtain ⟨q, hc⟩ := id h1
  by_cases hx : 0 ≤ x
  · refine StK.mk (F := (sd, (L, Q, I, T, fa, B, x))) h2 ?_ (fun ρ hr => ?_)
    · have e1 : sX10_seed x σ = (u2 σ.1 0 9 x, σ.2) := if_pos hx
      have e2 : rX10_seed x σ = σ.1 0 9 := if_pos hx
      refine StC.of (fun l b cy D => ev_X10_seed (d := 7)) (by rw [e2]; exact hc.2.2.2.2.2.1.1) ?_ ?_
      · rw [e1]
        refine ⟨q, RC.sdn (σ := σ) (fun a _ ha => u2k ha) rfl ⟨?_, hx⟩ hc⟩
        dsimp only; rw [u2_eq]
      · rw [e1]; exact fun a ha => u2k (by omega)
    · have e1 : sX11_seed x ρ = (u2 ρ.1 159 5 x, ρ.2) := if_pos hx
      have e2 : rX11_seed x ρ = ρ.1 159 5 := if_pos hx
      refine StM.of (fun l b cy D => ev_X11_seed (d := 7)) (by rw [e2]; exact hr.2.2.2.2.2) ?_ ?_
      · rw [e1]
        refine RM.sdn (fun a ha _ => u2k ha) (fun j hj => u2_j hj) ?_ hr
        dsimp only; rw [u2_eq]
      · rw [e1]; exact fun a ha => ⟨u2k (by omega), rfl⟩
  · refine StK.mk (F := (-1000000002, (L, Q, I, T, fa, B, sd))) h2 ?_ (fun ρ hr => ?_)
    · exact StC.of (fun l b cy D => ev_X10_seed (d := 7)) (if_neg hx) (by rw [show sX10_seed x σ = σ from if_neg hx]; exact h1) (by rw [show sX10_seed x σ = σ from if_neg hx]; exact hi_rfl)
    · exact StM.of (fun l b cy D => ev_X11_seed (d := 7)) (if_neg hx) (by rw [show sX11_seed x ρ = ρ from if_neg hx]; exact hr) (by rw [show sX11_seed x ρ = ρ from if_neg hx]; exact lo_rfl)
end
