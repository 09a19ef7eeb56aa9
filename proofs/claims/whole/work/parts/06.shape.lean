/-- the cells once all is made, in the order in which they are made -/
def shL : List Shp := [.inl (10, [4, 6, 48, 50, 54, 152, 153, 154, 155, 0]), .inl (5, [5, 0]), .inr (0, 48, []), .inl (4, [7, 0, 0]), .inr (3, 20, [6, 8, 10, 12, 14, 16, 18, 20, 22, 24, 26, 28, 30, 32, 34, 36, 38, 40, 42, 44]), .inl (5, [9, 0]), .inr (0, 48, []), .inl (5, [11, 0]), .inr (0, 48, []), .inl (5, [13, 0]), .inr (0, 48, []), .inl (5, [15, 0]), .inr (0, 48, []), .inl (5, [17, 0]), .inr (0, 48, []), .inl (5, [19, 0]), .inr (0, 48, []), .inl (5, [21, 0]), .inr (0, 48, []), .inl (5, [23, 0]), .inr (0, 48, []), .inl (5, [25, 0]), .inr (0, 48, []), .inl (5, [27, 0]), .inr (0, 48, []), .inl (5, [29, 0]), .inr (0, 48, []), .inl (5, [31, 0]), .inr (0, 48, []), .inl (5, [33, 0]), .inr (0, 48, []), .inl (5, [35, 0]), .inr (0, 48, []), .inl (5, [37, 0]), .inr (0, 48, []), .inl (5, [39, 0]), .inr (0, 48, []), .inl (5, [41, 0]), .inr (0, 48, []), .inl (5, [43, 0]), .inr (0, 48, []), .inl (5, [45, 0]), .inr (0, 48, []), .inl (5, [47, 0]), .inr (0, 48, []), .inl (7, [49, 0, 0]), .inr (0, 60, []), .inl (0, [51, 52, 53, 0]), .inr (0, 20, []), .inr (0, 20, []), .inr (2, 20, []), .inl (2, [55, 56, 63, 64, 65, 66, 0]), .inr (4, 12, [66, 73, 80, 87, 94, 101, 108, 115, 122, 129, 136, 143]), .inl (3, [57, 58, 0, 0]), .inl (6, [1, 1, 1, 1]), .inl (8, [59, 60, 61, 0, 0]), .inr (0, 40, []), .inl (6, [1, 1, 1, 1]), .inl (9, [62]), .inl (6, [1, 1, 1, 1]), .inl (6, [1, 1, 1, 1]), .inl (6, [1, 1, 1, 1]), .inl (6, [1, 1, 1, 1]), .inl (9, [67]), .inl (6, [1, 1, 1, 1]), .inl (3, [69, 70, 0, 0]), .inl (6, [1, 1, 1, 1]), .inl (8, [71, 72, 73, 0, 0]), .inr (0, 40, []), .inl (6, [1, 1, 1, 1]), .inl (9, [74]), .inl (6, [1, 1, 1, 1]), .inl (3, [76, 77, 0, 0]), .inl (6, [1, 1, 1, 1]), .inl (8, [78, 79, 80, 0, 0]), .inr (0, 40, []), .inl (6, [1, 1, 1, 1]), .inl (9, [81]), .inl (6, [1, 1, 1, 1]), .inl (3, [83, 84, 0, 0]), .inl (6, [1, 1, 1, 1]), .inl (8, [85, 86, 87, 0, 0]), .inr (0, 40, []), .inl (6, [1, 1, 1, 1]), .inl (9, [88]), .inl (6, [1, 1, 1, 1]), .inl (3, [90, 91, 0, 0]), .inl (6, [1, 1, 1, 1]), .inl (8, [92, 93, 94, 0, 0]), .inr (0, 40, []), .inl (6, [1, 1, 1, 1]), .inl (9, [95]), .inl (6, [1, 1, 1, 1]), .inl (3, [97, 98, 0, 0]), .inl (6, [1, 1, 1, 1]), .inl (8, [99, 100, 101, 0, 0]), .inr (0, 40, []), .inl (6, [1, 1, 1, 1]), .inl (9, [102]), .inl (6, [1, 1, 1, 1]), .inl (3, [104, 105, 0, 0]), .inl (6, [1, 1, 1, 1]), .inl (8, [106, 107, 108, 0, 0]), .inr (0, 40, []), .inl (6, [1, 1, 1, 1]), .inl (9, [109]), .inl (6, [1, 1, 1, 1]), .inl (3, [111, 112, 0, 0]), .inl (6, [1, 1, 1, 1]), .inl (8, [113, 114, 115, 0, 0]), .inr (0, 40, []), .inl (6, [1, 1, 1, 1]), .inl (9, [116]), .inl (6, [1, 1, 1, 1]), .inl (3, [118, 119, 0, 0]), .inl (6, [1, 1, 1, 1]), .inl (8, [120, 121, 122, 0, 0]), .inr (0, 40, []), .inl (6, [1, 1, 1, 1]), .inl (9, [123]), .inl (6, [1, 1, 1, 1]), .inl (3, [125, 126, 0, 0]), .inl (6, [1, 1, 1, 1]), .inl (8, [127, 128, 129, 0, 0]), .inr (0, 40, []), .inl (6, [1, 1, 1, 1]), .inl (9, [130]), .inl (6, [1, 1, 1, 1]), .inl (3, [132, 133, 0, 0]), .inl (6, [1, 1, 1, 1]), .inl (8, [134, 135, 136, 0, 0]), .inr (0, 40, []), .inl (6, [1, 1, 1, 1]), .inl (9, [137]), .inl (6, [1, 1, 1, 1]), .inl (3, [139, 140, 0, 0]), .inl (6, [1, 1, 1, 1]), .inl (8, [141, 142, 143, 0, 0]), .inr (0, 40, []), .inl (6, [1, 1, 1, 1]), .inl (9, [144]), .inl (6, [1, 1, 1, 1]), .inl (3, [146, 147, 0, 0]), .inl (6, [1, 1, 1, 1]), .inl (8, [148, 149, 150, 0, 0]), .inr (0, 40, []), .inl (6, [1, 1, 1, 1]), .inl (9, [151]), .inl (6, [1, 1, 1, 1]), .inr (5, 2, [154, 157]), .inl (6, [1, 1, 1, 1]), .inl (6, [1, 1, 1, 1]), .inl (6, [1, 1, 1, 1]), .inl (1, [157, 0, 0]), .inl (5, [158, 0]), .inr (0, 48, []), .inl (1, [160, 0, 0]), .inl (5, [161, 0]), .inr (0, 48, []), .inl (11, [163, 164, 0, 165, 166, 0, 167, 0, 0, 168, 0, 1, 1, 1, 1, 0, 1, 1, 169, 0, 0, 1, 1, 170, 171, 0, 0, 1, 1, 0, 0, 1, 172, 173]), .inr (0, 49, []), .inr (0, 980, []), .inr (0, 100, []), .inr (2, 2, []), .inr (0, 60, []), .inr (0, 60, []), .inr (0, 64, []), .inr (0, 64, []), .inr (0, 64, []), .inr (0, 64, []), .inr (1, 4, [])]
def shF (k : Nat) : Shp := shL.getD k (.inl (0, []))
abbrev Es (l : Launch) (b : Nat) (cy : Nat → ClassId) (D : va_G) (d : Nat) (y : MethodName) (cc : ByteArray) (ret : Option FieldType) (nL : Nat) (av : List Value) (σ : Sg) (r : Option Value) (σ' : Sg) : Prop := Ev l b cy D (rm d) y cc ret nL 0 0 av shF NP σ (r, shF, NP, σ')
abbrev Gs (l : Launch) (b : Nat) (cy : Nat → ClassId) (D : va_G) (d : Nat) (y : MethodName) (cc : ByteArray) (ret : Option FieldType) (nL : Nat) (r : Option Value) (σ' : Sg) (pc : Nat) (lv : List (Nat × Value)) (st : List Value) (σ : Sg) : Prop := G l b cy D (rm d) y cc ret nL 0 0 (r, shF, NP, σ') pc lv st 0 0 shF NP σ
abbrev Sq (k : Nat) : Prop := isO shF NP k 6 [1, 1, 1, 1]
abbrev Wo (k p : Nat) : Prop := isO shF NP k 9 [p + 3] ∧ Sq p
abbrev Wh (k r e w p : Nat) : Prop := isO shF NP k 8 [r + 3, e + 3, w + 3, 0, 0] ∧ isR shF NP r 0 40 [] ∧ Sq e ∧ Wo w p
abbrev Ki (k s h r e w p : Nat) : Prop := isO shF NP k 3 [s + 3, h + 3, 0, 0] ∧ Sq s ∧ Wh h r e w p
abbrev Sf (k c : Nat) : Prop := isO shF NP k 5 [c + 3, 0] ∧ isR shF NP c 0 48 []
abbrev Im (k f c : Nat) : Prop := isO shF NP k 1 [f + 3, 0, 0] ∧ Sf f c
def bI (p : Bool) : Int32 := if p then 1 else 0
theorem bI_t : bI true = 1 := rfl
theorem bI_f : bI false = 0 := rfl
theorem bI_01 (p : Bool) : bI p = 0 ∨ bI p = 1 := by cases p <;> simp [bI]
theorem bf {p : Bool} (h : p = false) : ¬ p = true := by rw [h]; decide
theorem bI_z {p : Bool} (h : bI p = 0) : p = false := by cases p <;> first | rfl | exact absurd h (by decide)
theorem bI_nz {p : Bool} (h : ¬ bI p = 0) : p = true := by cases p <;> first | rfl | exact absurd rfl h
theorem bI_inj {p q : Bool} : bI p = bI q ↔ p = q := by cases p <;> cases q <;> decide
theorem rm_nat {d : Nat} {st : List Value} (h : 1 ≤ d) (hs : (st.map fun v => v.category).sum ≤ 8 := by exact Nat.le_of_ble_eq_true rfl) : 1 ≤ (rm d).frames ∧ (st.map fun v => v.category).sum + (nativeFrameWords "java/lang/System" "arraycopy" 5 + 11) ≤ (rm d).locals := by
  refine ⟨h, ?_⟩
  have e : nativeFrameWords "java/lang/System" "arraycopy" 5 + 11 ≤ 32 := by decide +kernel
  show _ ≤ 40 * d
  omega
section
variable {l : Launch} {b : Nat} {cy : Nat → ClassId} {D : va_G} {R : Room} {y : MethodName} {cc : ByteArray} {ret : Option FieldType} {nL mc ms : Nat} {Z : Zt} {pc pc' tgt : Nat} {lv lv' : List (Nat × Value)} {st : List Value} {kc ks : Nat} {sh : Nat → Shp} {n : Nat} {σ : Sg} {off : Int}
theorem g_ifb_eq {p : Bool} (hd : decode cc pc = .ok (.ifCond .eq off, 3)) (hp : pc + 3 = pc') (ht : (pc : Int) + off = (tgt : Int)) (kt : p = false → G l b cy D R y cc ret nL mc ms Z tgt lv st kc ks sh n σ) (kf : p = true → G l b cy D R y cc ret nL mc ms Z pc' lv st kc ks sh n σ) : G l b cy D R y cc ret nL mc ms Z pc lv (.int (bI p) :: st) kc ks sh n σ := g_if_eq hd hp ht (fun h => kt (bI_z h)) (fun h => kf (bI_nz h))
theorem g_ifb_ne {p : Bool} (hd : decode cc pc = .ok (.ifCond .ne off, 3)) (hp : pc + 3 = pc') (ht : (pc : Int) + off = (tgt : Int)) (kt : p = true → G l b cy D R y cc ret nL mc ms Z tgt lv st kc ks sh n σ) (kf : p = false → G l b cy D R y cc ret nL mc ms Z pc' lv st kc ks sh n σ) : G l b cy D R y cc ret nL mc ms Z pc lv (.int (bI p) :: st) kc ks sh n σ := g_if_ne hd hp ht (fun h => kt (bI_nz h)) (fun h => kf (bI_z h))
end
theorem o0 : isO shF NP 0 10 [4, 6, 48, 50, 54, 152, 153, 154, 155, 0] := ⟨by decide, rfl⟩
theorem o1 : isO shF NP 1 5 [5, 0] := ⟨by decide, rfl⟩
theorem o2 : isR shF NP 2 0 48 [] := ⟨by decide, rfl⟩
theorem o3 : isO shF NP 3 4 [7, 0, 0] := ⟨by decide, rfl⟩
theorem o4 : isR shF NP 4 3 20 [6, 8, 10, 12, 14, 16, 18, 20, 22, 24, 26, 28, 30, 32, 34, 36, 38, 40, 42, 44] := ⟨by decide, rfl⟩
theorem o5 : isO shF NP 5 5 [9, 0] := ⟨by decide, rfl⟩
theorem o6 : isR shF NP 6 0 48 [] := ⟨by decide, rfl⟩
theorem o7 : isO shF NP 7 5 [11, 0] := ⟨by decide, rfl⟩
theorem o8 : isR shF NP 8 0 48 [] := ⟨by decide, rfl⟩
theorem o9 : isO shF NP 9 5 [13, 0] := ⟨by decide, rfl⟩
theorem o10 : isR shF NP 10 0 48 [] := ⟨by decide, rfl⟩
theorem o11 : isO shF NP 11 5 [15, 0] := ⟨by decide, rfl⟩
theorem o12 : isR shF NP 12 0 48 [] := ⟨by decide, rfl⟩
theorem o13 : isO shF NP 13 5 [17, 0] := ⟨by decide, rfl⟩
theorem o14 : isR shF NP 14 0 48 [] := ⟨by decide, rfl⟩
theorem o15 : isO shF NP 15 5 [19, 0] := ⟨by decide, rfl⟩
theorem o16 : isR shF NP 16 0 48 [] := ⟨by decide, rfl⟩
theorem o17 : isO shF NP 17 5 [21, 0] := ⟨by decide, rfl⟩
theorem o18 : isR shF NP 18 0 48 [] := ⟨by decide, rfl⟩
theorem o19 : isO shF NP 19 5 [23, 0] := ⟨by decide, rfl⟩
theorem o20 : isR shF NP 20 0 48 [] := ⟨by decide, rfl⟩
theorem o21 : isO shF NP 21 5 [25, 0] := ⟨by decide, rfl⟩
theorem o22 : isR shF NP 22 0 48 [] := ⟨by decide, rfl⟩
theorem o23 : isO shF NP 23 5 [27, 0] := ⟨by decide, rfl⟩
theorem o24 : isR shF NP 24 0 48 [] := ⟨by decide, rfl⟩
theorem o25 : isO shF NP 25 5 [29, 0] := ⟨by decide, rfl⟩
theorem o26 : isR shF NP 26 0 48 [] := ⟨by decide, rfl⟩
theorem o27 : isO shF NP 27 5 [31, 0] := ⟨by decide, rfl⟩
theorem o28 : isR shF NP 28 0 48 [] := ⟨by decide, rfl⟩
theorem o29 : isO shF NP 29 5 [33, 0] := ⟨by decide, rfl⟩
theorem o30 : isR shF NP 30 0 48 [] := ⟨by decide, rfl⟩
theorem o31 : isO shF NP 31 5 [35, 0] := ⟨by decide, rfl⟩
theorem o32 : isR shF NP 32 0 48 [] := ⟨by decide, rfl⟩
theorem o33 : isO shF NP 33 5 [37, 0] := ⟨by decide, rfl⟩
theorem o34 : isR shF NP 34 0 48 [] := ⟨by decide, rfl⟩
theorem o35 : isO shF NP 35 5 [39, 0] := ⟨by decide, rfl⟩
theorem o36 : isR shF NP 36 0 48 [] := ⟨by decide, rfl⟩
theorem o37 : isO shF NP 37 5 [41, 0] := ⟨by decide, rfl⟩
theorem o38 : isR shF NP 38 0 48 [] := ⟨by decide, rfl⟩
theorem o39 : isO shF NP 39 5 [43, 0] := ⟨by decide, rfl⟩
theorem o40 : isR shF NP 40 0 48 [] := ⟨by decide, rfl⟩
theorem o41 : isO shF NP 41 5 [45, 0] := ⟨by decide, rfl⟩
theorem o42 : isR shF NP 42 0 48 [] := ⟨by decide, rfl⟩
theorem o43 : isO shF NP 43 5 [47, 0] := ⟨by decide, rfl⟩
theorem o44 : isR shF NP 44 0 48 [] := ⟨by decide, rfl⟩
theorem o45 : isO shF NP 45 7 [49, 0, 0] := ⟨by decide, rfl⟩
theorem o46 : isR shF NP 46 0 60 [] := ⟨by decide, rfl⟩
theorem o47 : isO shF NP 47 0 [51, 52, 53, 0] := ⟨by decide, rfl⟩
theorem o48 : isR shF NP 48 0 20 [] := ⟨by decide, rfl⟩
theorem o49 : isR shF NP 49 0 20 [] := ⟨by decide, rfl⟩
theorem o50 : isR shF NP 50 2 20 [] := ⟨by decide, rfl⟩
theorem o51 : isO shF NP 51 2 [55, 56, 63, 64, 65, 66, 0] := ⟨by decide, rfl⟩
theorem o52 : isR shF NP 52 4 12 [66, 73, 80, 87, 94, 101, 108, 115, 122, 129, 136, 143] := ⟨by decide, rfl⟩
theorem o53 : isO shF NP 53 3 [57, 58, 0, 0] := ⟨by decide, rfl⟩
theorem o54 : isO shF NP 54 6 [1, 1, 1, 1] := ⟨by decide, rfl⟩
theorem o55 : isO shF NP 55 8 [59, 60, 61, 0, 0] := ⟨by decide, rfl⟩
theorem o56 : isR shF NP 56 0 40 [] := ⟨by decide, rfl⟩
theorem o57 : isO shF NP 57 6 [1, 1, 1, 1] := ⟨by decide, rfl⟩
theorem o58 : isO shF NP 58 9 [62] := ⟨by decide, rfl⟩
theorem o59 : isO shF NP 59 6 [1, 1, 1, 1] := ⟨by decide, rfl⟩
theorem o60 : isO shF NP 60 6 [1, 1, 1, 1] := ⟨by decide, rfl⟩
theorem o61 : isO shF NP 61 6 [1, 1, 1, 1] := ⟨by decide, rfl⟩
theorem o62 : isO shF NP 62 6 [1, 1, 1, 1] := ⟨by decide, rfl⟩
theorem o63 : isO shF NP 63 9 [67] := ⟨by decide, rfl⟩
theorem o64 : isO shF NP 64 6 [1, 1, 1, 1] := ⟨by decide, rfl⟩
theorem o65 : isO shF NP 65 3 [69, 70, 0, 0] := ⟨by decide, rfl⟩
theorem o66 : isO shF NP 66 6 [1, 1, 1, 1] := ⟨by decide, rfl⟩
theorem o67 : isO shF NP 67 8 [71, 72, 73, 0, 0] := ⟨by decide, rfl⟩
theorem o68 : isR shF NP 68 0 40 [] := ⟨by decide, rfl⟩
theorem o69 : isO shF NP 69 6 [1, 1, 1, 1] := ⟨by decide, rfl⟩
theorem o70 : isO shF NP 70 9 [74] := ⟨by decide, rfl⟩
theorem o71 : isO shF NP 71 6 [1, 1, 1, 1] := ⟨by decide, rfl⟩
theorem o72 : isO shF NP 72 3 [76, 77, 0, 0] := ⟨by decide, rfl⟩
theorem o73 : isO shF NP 73 6 [1, 1, 1, 1] := ⟨by decide, rfl⟩
theorem o74 : isO shF NP 74 8 [78, 79, 80, 0, 0] := ⟨by decide, rfl⟩
theorem o75 : isR shF NP 75 0 40 [] := ⟨by decide, rfl⟩
theorem o76 : isO shF NP 76 6 [1, 1, 1, 1] := ⟨by decide, rfl⟩
theorem o77 : isO shF NP 77 9 [81] := ⟨by decide, rfl⟩
theorem o78 : isO shF NP 78 6 [1, 1, 1, 1] := ⟨by decide, rfl⟩
theorem o79 : isO shF NP 79 3 [83, 84, 0, 0] := ⟨by decide, rfl⟩
theorem o80 : isO shF NP 80 6 [1, 1, 1, 1] := ⟨by decide, rfl⟩
theorem o81 : isO shF NP 81 8 [85, 86, 87, 0, 0] := ⟨by decide, rfl⟩
theorem o82 : isR shF NP 82 0 40 [] := ⟨by decide, rfl⟩
theorem o83 : isO shF NP 83 6 [1, 1, 1, 1] := ⟨by decide, rfl⟩
theorem o84 : isO shF NP 84 9 [88] := ⟨by decide, rfl⟩
theorem o85 : isO shF NP 85 6 [1, 1, 1, 1] := ⟨by decide, rfl⟩
theorem o86 : isO shF NP 86 3 [90, 91, 0, 0] := ⟨by decide, rfl⟩
theorem o87 : isO shF NP 87 6 [1, 1, 1, 1] := ⟨by decide, rfl⟩
theorem o88 : isO shF NP 88 8 [92, 93, 94, 0, 0] := ⟨by decide, rfl⟩
theorem o89 : isR shF NP 89 0 40 [] := ⟨by decide, rfl⟩
theorem o90 : isO shF NP 90 6 [1, 1, 1, 1] := ⟨by decide, rfl⟩
theorem o91 : isO shF NP 91 9 [95] := ⟨by decide, rfl⟩
theorem o92 : isO shF NP 92 6 [1, 1, 1, 1] := ⟨by decide, rfl⟩
theorem o93 : isO shF NP 93 3 [97, 98, 0, 0] := ⟨by decide, rfl⟩
theorem o94 : isO shF NP 94 6 [1, 1, 1, 1] := ⟨by decide, rfl⟩
theorem o95 : isO shF NP 95 8 [99, 100, 101, 0, 0] := ⟨by decide, rfl⟩
theorem o96 : isR shF NP 96 0 40 [] := ⟨by decide, rfl⟩
theorem o97 : isO shF NP 97 6 [1, 1, 1, 1] := ⟨by decide, rfl⟩
theorem o98 : isO shF NP 98 9 [102] := ⟨by decide, rfl⟩
theorem o99 : isO shF NP 99 6 [1, 1, 1, 1] := ⟨by decide, rfl⟩
theorem o100 : isO shF NP 100 3 [104, 105, 0, 0] := ⟨by decide, rfl⟩
theorem o101 : isO shF NP 101 6 [1, 1, 1, 1] := ⟨by decide, rfl⟩
theorem o102 : isO shF NP 102 8 [106, 107, 108, 0, 0] := ⟨by decide, rfl⟩
theorem o103 : isR shF NP 103 0 40 [] := ⟨by decide, rfl⟩
theorem o104 : isO shF NP 104 6 [1, 1, 1, 1] := ⟨by decide, rfl⟩
theorem o105 : isO shF NP 105 9 [109] := ⟨by decide, rfl⟩
theorem o106 : isO shF NP 106 6 [1, 1, 1, 1] := ⟨by decide, rfl⟩
theorem o107 : isO shF NP 107 3 [111, 112, 0, 0] := ⟨by decide, rfl⟩
theorem o108 : isO shF NP 108 6 [1, 1, 1, 1] := ⟨by decide, rfl⟩
theorem o109 : isO shF NP 109 8 [113, 114, 115, 0, 0] := ⟨by decide, rfl⟩
theorem o110 : isR shF NP 110 0 40 [] := ⟨by decide, rfl⟩
theorem o111 : isO shF NP 111 6 [1, 1, 1, 1] := ⟨by decide, rfl⟩
theorem o112 : isO shF NP 112 9 [116] := ⟨by decide, rfl⟩
theorem o113 : isO shF NP 113 6 [1, 1, 1, 1] := ⟨by decide, rfl⟩
theorem o114 : isO shF NP 114 3 [118, 119, 0, 0] := ⟨by decide, rfl⟩
theorem o115 : isO shF NP 115 6 [1, 1, 1, 1] := ⟨by decide, rfl⟩
theorem o116 : isO shF NP 116 8 [120, 121, 122, 0, 0] := ⟨by decide, rfl⟩
theorem o117 : isR shF NP 117 0 40 [] := ⟨by decide, rfl⟩
theorem o118 : isO shF NP 118 6 [1, 1, 1, 1] := ⟨by decide, rfl⟩
theorem o119 : isO shF NP 119 9 [123] := ⟨by decide, rfl⟩
theorem o120 : isO shF NP 120 6 [1, 1, 1, 1] := ⟨by decide, rfl⟩
theorem o121 : isO shF NP 121 3 [125, 126, 0, 0] := ⟨by decide, rfl⟩
theorem o122 : isO shF NP 122 6 [1, 1, 1, 1] := ⟨by decide, rfl⟩
theorem o123 : isO shF NP 123 8 [127, 128, 129, 0, 0] := ⟨by decide, rfl⟩
theorem o124 : isR shF NP 124 0 40 [] := ⟨by decide, rfl⟩
theorem o125 : isO shF NP 125 6 [1, 1, 1, 1] := ⟨by decide, rfl⟩
theorem o126 : isO shF NP 126 9 [130] := ⟨by decide, rfl⟩
theorem o127 : isO shF NP 127 6 [1, 1, 1, 1] := ⟨by decide, rfl⟩
theorem o128 : isO shF NP 128 3 [132, 133, 0, 0] := ⟨by decide, rfl⟩
theorem o129 : isO shF NP 129 6 [1, 1, 1, 1] := ⟨by decide, rfl⟩
theorem o130 : isO shF NP 130 8 [134, 135, 136, 0, 0] := ⟨by decide, rfl⟩
theorem o131 : isR shF NP 131 0 40 [] := ⟨by decide, rfl⟩
theorem o132 : isO shF NP 132 6 [1, 1, 1, 1] := ⟨by decide, rfl⟩
theorem o133 : isO shF NP 133 9 [137] := ⟨by decide, rfl⟩
theorem o134 : isO shF NP 134 6 [1, 1, 1, 1] := ⟨by decide, rfl⟩
theorem o135 : isO shF NP 135 3 [139, 140, 0, 0] := ⟨by decide, rfl⟩
theorem o136 : isO shF NP 136 6 [1, 1, 1, 1] := ⟨by decide, rfl⟩
theorem o137 : isO shF NP 137 8 [141, 142, 143, 0, 0] := ⟨by decide, rfl⟩
theorem o138 : isR shF NP 138 0 40 [] := ⟨by decide, rfl⟩
theorem o139 : isO shF NP 139 6 [1, 1, 1, 1] := ⟨by decide, rfl⟩
theorem o140 : isO shF NP 140 9 [144] := ⟨by decide, rfl⟩
theorem o141 : isO shF NP 141 6 [1, 1, 1, 1] := ⟨by decide, rfl⟩
theorem o142 : isO shF NP 142 3 [146, 147, 0, 0] := ⟨by decide, rfl⟩
theorem o143 : isO shF NP 143 6 [1, 1, 1, 1] := ⟨by decide, rfl⟩
theorem o144 : isO shF NP 144 8 [148, 149, 150, 0, 0] := ⟨by decide, rfl⟩
theorem o145 : isR shF NP 145 0 40 [] := ⟨by decide, rfl⟩
theorem o146 : isO shF NP 146 6 [1, 1, 1, 1] := ⟨by decide, rfl⟩
theorem o147 : isO shF NP 147 9 [151] := ⟨by decide, rfl⟩
theorem o148 : isO shF NP 148 6 [1, 1, 1, 1] := ⟨by decide, rfl⟩
theorem o149 : isR shF NP 149 5 2 [154, 157] := ⟨by decide, rfl⟩
theorem o150 : isO shF NP 150 6 [1, 1, 1, 1] := ⟨by decide, rfl⟩
theorem o151 : isO shF NP 151 6 [1, 1, 1, 1] := ⟨by decide, rfl⟩
theorem o152 : isO shF NP 152 6 [1, 1, 1, 1] := ⟨by decide, rfl⟩
theorem o153 : isO shF NP 153 1 [157, 0, 0] := ⟨by decide, rfl⟩
theorem o154 : isO shF NP 154 5 [158, 0] := ⟨by decide, rfl⟩
theorem o155 : isR shF NP 155 0 48 [] := ⟨by decide, rfl⟩
theorem o156 : isO shF NP 156 1 [160, 0, 0] := ⟨by decide, rfl⟩
theorem o157 : isO shF NP 157 5 [161, 0] := ⟨by decide, rfl⟩
theorem o158 : isR shF NP 158 0 48 [] := ⟨by decide, rfl⟩
theorem o159 : isO shF NP 159 11 [163, 164, 0, 165, 166, 0, 167, 0, 0, 168, 0, 1, 1, 1, 1, 0, 1, 1, 169, 0, 0, 1, 1, 170, 171, 0, 0, 1, 1, 0, 0, 1, 172, 173] := ⟨by decide, rfl⟩
theorem o160 : isR shF NP 160 0 49 [] := ⟨by decide, rfl⟩
theorem o161 : isR shF NP 161 0 980 [] := ⟨by decide, rfl⟩
theorem o162 : isR shF NP 162 0 100 [] := ⟨by decide, rfl⟩
theorem o163 : isR shF NP 163 2 2 [] := ⟨by decide, rfl⟩
theorem o164 : isR shF NP 164 0 60 [] := ⟨by decide, rfl⟩
theorem o165 : isR shF NP 165 0 60 [] := ⟨by decide, rfl⟩
theorem o166 : isR shF NP 166 0 64 [] := ⟨by decide, rfl⟩
theorem o167 : isR shF NP 167 0 64 [] := ⟨by decide, rfl⟩
theorem o168 : isR shF NP 168 0 64 [] := ⟨by decide, rfl⟩
theorem o169 : isR shF NP 169 0 64 [] := ⟨by decide, rfl⟩
theorem o170 : isR shF NP 170 1 4 [] := ⟨by decide, rfl⟩
theorem ki53 : Ki 53 54 55 56 57 58 59 := ⟨o53, o54, o55, o56, o57, o58, o59⟩
theorem sf1 : Sf 1 2 := ⟨o1, o2⟩
theorem wo63 : Wo 63 64 := ⟨o63, o64⟩
theorem ki_0 : ∀ s, s < 12 → isO shF NP (65 + 7 * s) 3 [65 + 7 * s + 1 + 3, 65 + 7 * s + 2 + 3, 0, 0] := by unfold isO; decide +kernel
theorem ki_1 : ∀ s, s < 12 → isO shF NP (65 + 7 * s + 1) 6 [1, 1, 1, 1] := by unfold isO; decide +kernel
theorem ki_2 : ∀ s, s < 12 → isO shF NP (65 + 7 * s + 2) 8 [65 + 7 * s + 3 + 3, 65 + 7 * s + 4 + 3, 65 + 7 * s + 5 + 3, 0, 0] := by unfold isO; decide +kernel
theorem ki_3 : ∀ s, s < 12 → isR shF NP (65 + 7 * s + 3) 0 40 [] := by unfold isR; decide +kernel
theorem ki_4 : ∀ s, s < 12 → isO shF NP (65 + 7 * s + 4) 6 [1, 1, 1, 1] := by unfold isO; decide +kernel
theorem ki_5 : ∀ s, s < 12 → isO shF NP (65 + 7 * s + 5) 9 [65 + 7 * s + 6 + 3] := by unfold isO; decide +kernel
theorem ki_6 : ∀ s, s < 12 → isO shF NP (65 + 7 * s + 6) 6 [1, 1, 1, 1] := by unfold isO; decide +kernel
theorem kiN (s : Nat) (h : s < 12) : Ki (65 + 7 * s) (65 + 7 * s + 1) (65 + 7 * s + 2) (65 + 7 * s + 3) (65 + 7 * s + 4) (65 + 7 * s + 5) (65 + 7 * s + 6) := ⟨ki_0 s h, ki_1 s h, ki_2 s h, ki_3 s h, ki_4 s h, ki_5 s h, ki_6 s h⟩
theorem sfN : ∀ s, s < 20 → Sf (5 + 2 * s) (5 + 2 * s + 1) := by
  unfold Sf isO isR
  decide +kernel
theorem im_0 : ∀ s, s < 2 → isO shF NP (153 + 3 * s) 1 [153 + 3 * s + 1 + 3, 0, 0] := by unfold isO; decide +kernel
theorem im_1 : ∀ s, s < 2 → isO shF NP (153 + 3 * s + 1) 5 [153 + 3 * s + 2 + 3, 0] := by unfold isO; decide +kernel
theorem im_2 : ∀ s, s < 2 → isR shF NP (153 + 3 * s + 2) 0 48 [] := by unfold isR; decide +kernel
theorem imN (s : Nat) (h : s < 2) : Im (153 + 3 * s) (153 + 3 * s + 1) (153 + 3 * s + 2) := ⟨im_0 s h, im_1 s h, im_2 s h⟩
theorem ak : ∀ s, s < 12 → ([66, 73, 80, 87, 94, 101, 108, 115, 122, 129, 136, 143] : List Nat)[s]? = some (65 + 7 * s + 1) := by decide +kernel
theorem as : ∀ s, s < 20 → ([6, 8, 10, 12, 14, 16, 18, 20, 22, 24, 26, 28, 30, 32, 34, 36, 38, 40, 42, 44] : List Nat)[s]? = some (5 + 2 * s + 1) := by decide +kernel
theorem ai : ∀ s, s < 2 → ([154, 157] : List Nat)[s]? = some (153 + 3 * s + 1) := by decide +kernel
