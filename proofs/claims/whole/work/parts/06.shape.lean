/-- the cells once all is made, in the order in which they are made -/
def shL : List Shp := [.inl (10, [4, 6, 48, 50, 54, 153, 154, 155, 156, 0]), .inl (5, [5, 0]), .inr (0, 48, []), .inl (4, [7, 0, 0]), .inr (3, 20, [6, 8, 10, 12, 14, 16, 18, 20, 22, 24, 26, 28, 30, 32, 34, 36, 38, 40, 42, 44]), .inl (5, [9, 0]), .inr (0, 48, []), .inl (5, [11, 0]), .inr (0, 48, []), .inl (5, [13, 0]), .inr (0, 48, []), .inl (5, [15, 0]), .inr (0, 48, []), .inl (5, [17, 0]), .inr (0, 48, []), .inl (5, [19, 0]), .inr (0, 48, []), .inl (5, [21, 0]), .inr (0, 48, []), .inl (5, [23, 0]), .inr (0, 48, []), .inl (5, [25, 0]), .inr (0, 48, []), .inl (5, [27, 0]), .inr (0, 48, []), .inl (5, [29, 0]), .inr (0, 48, []), .inl (5, [31, 0]), .inr (0, 48, []), .inl (5, [33, 0]), .inr (0, 48, []), .inl (5, [35, 0]), .inr (0, 48, []), .inl (5, [37, 0]), .inr (0, 48, []), .inl (5, [39, 0]), .inr (0, 48, []), .inl (5, [41, 0]), .inr (0, 48, []), .inl (5, [43, 0]), .inr (0, 48, []), .inl (5, [45, 0]), .inr (0, 48, []), .inl (5, [47, 0]), .inr (0, 48, []), .inl (7, [49, 0, 0]), .inr (0, 60, []), .inl (0, [51, 52, 53, 0]), .inr (0, 20, []), .inr (0, 20, []), .inr (2, 20, []), .inl (2, [4, 55, 56, 63, 64, 65, 66, 67]), .inr (4, 12, [67, 74, 81, 88, 95, 102, 109, 116, 123, 130, 137, 144]), .inl (3, [57, 58, 0, 0]), .inl (6, [1, 1, 1, 1]), .inl (8, [59, 60, 61, 0, 0]), .inr (0, 40, []), .inl (6, [1, 1, 1, 1]), .inl (9, [62]), .inl (6, [1, 1, 1, 1]), .inl (6, [1, 1, 1, 1]), .inl (6, [1, 1, 1, 1]), .inl (6, [1, 1, 1, 1]), .inl (6, [1, 1, 1, 1]), .inl (9, [68]), .inl (6, [1, 1, 1, 1]), .inl (3, [70, 71, 0, 0]), .inl (6, [1, 1, 1, 1]), .inl (8, [72, 73, 74, 0, 0]), .inr (0, 40, []), .inl (6, [1, 1, 1, 1]), .inl (9, [75]), .inl (6, [1, 1, 1, 1]), .inl (3, [77, 78, 0, 0]), .inl (6, [1, 1, 1, 1]), .inl (8, [79, 80, 81, 0, 0]), .inr (0, 40, []), .inl (6, [1, 1, 1, 1]), .inl (9, [82]), .inl (6, [1, 1, 1, 1]), .inl (3, [84, 85, 0, 0]), .inl (6, [1, 1, 1, 1]), .inl (8, [86, 87, 88, 0, 0]), .inr (0, 40, []), .inl (6, [1, 1, 1, 1]), .inl (9, [89]), .inl (6, [1, 1, 1, 1]), .inl (3, [91, 92, 0, 0]), .inl (6, [1, 1, 1, 1]), .inl (8, [93, 94, 95, 0, 0]), .inr (0, 40, []), .inl (6, [1, 1, 1, 1]), .inl (9, [96]), .inl (6, [1, 1, 1, 1]), .inl (3, [98, 99, 0, 0]), .inl (6, [1, 1, 1, 1]), .inl (8, [100, 101, 102, 0, 0]), .inr (0, 40, []), .inl (6, [1, 1, 1, 1]), .inl (9, [103]), .inl (6, [1, 1, 1, 1]), .inl (3, [105, 106, 0, 0]), .inl (6, [1, 1, 1, 1]), .inl (8, [107, 108, 109, 0, 0]), .inr (0, 40, []), .inl (6, [1, 1, 1, 1]), .inl (9, [110]), .inl (6, [1, 1, 1, 1]), .inl (3, [112, 113, 0, 0]), .inl (6, [1, 1, 1, 1]), .inl (8, [114, 115, 116, 0, 0]), .inr (0, 40, []), .inl (6, [1, 1, 1, 1]), .inl (9, [117]), .inl (6, [1, 1, 1, 1]), .inl (3, [119, 120, 0, 0]), .inl (6, [1, 1, 1, 1]), .inl (8, [121, 122, 123, 0, 0]), .inr (0, 40, []), .inl (6, [1, 1, 1, 1]), .inl (9, [124]), .inl (6, [1, 1, 1, 1]), .inl (3, [126, 127, 0, 0]), .inl (6, [1, 1, 1, 1]), .inl (8, [128, 129, 130, 0, 0]), .inr (0, 40, []), .inl (6, [1, 1, 1, 1]), .inl (9, [131]), .inl (6, [1, 1, 1, 1]), .inl (3, [133, 134, 0, 0]), .inl (6, [1, 1, 1, 1]), .inl (8, [135, 136, 137, 0, 0]), .inr (0, 40, []), .inl (6, [1, 1, 1, 1]), .inl (9, [138]), .inl (6, [1, 1, 1, 1]), .inl (3, [140, 141, 0, 0]), .inl (6, [1, 1, 1, 1]), .inl (8, [142, 143, 144, 0, 0]), .inr (0, 40, []), .inl (6, [1, 1, 1, 1]), .inl (9, [145]), .inl (6, [1, 1, 1, 1]), .inl (3, [147, 148, 0, 0]), .inl (6, [1, 1, 1, 1]), .inl (8, [149, 150, 151, 0, 0]), .inr (0, 40, []), .inl (6, [1, 1, 1, 1]), .inl (9, [152]), .inl (6, [1, 1, 1, 1]), .inr (5, 2, [155, 158]), .inl (6, [1, 1, 1, 1]), .inl (6, [1, 1, 1, 1]), .inl (6, [1, 1, 1, 1]), .inl (1, [158, 0, 0]), .inl (5, [159, 0]), .inr (0, 48, []), .inl (1, [161, 0, 0]), .inl (5, [162, 0]), .inr (0, 48, []), .inl (11, [164, 165, 0, 166, 167, 0, 168, 0, 0, 169, 0, 1, 1, 1, 1, 0, 1, 1, 170, 0, 0, 1, 1, 171, 172, 0, 0, 1, 1, 0, 0, 1, 173, 174]), .inr (0, 49, []), .inr (0, 980, []), .inr (0, 100, []), .inr (2, 2, []), .inr (0, 60, []), .inr (0, 60, []), .inr (0, 64, []), .inr (0, 64, []), .inr (0, 64, []), .inr (0, 64, []), .inr (1, 4, [])]
def shF (k : Nat) : Shp := shL.getD k (.inl (0, []))
abbrev Es (l : Launch) (b : Nat) (cy : Nat → ClassId) (D : va_G) (d : Nat) (y : MethodName) (cc : ByteArray) (ret : Option FieldType) (nL : Nat) (av : List Value) (σ : Sg) (r : Option Value) (σ' : Sg) : Prop := Ev l b cy D (rm d) y cc ret nL 0 0 av shF NP σ (r, shF, NP, σ')
abbrev Gs (l : Launch) (b : Nat) (cy : Nat → ClassId) (D : va_G) (d : Nat) (y : MethodName) (cc : ByteArray) (ret : Option FieldType) (nL : Nat) (r : Option Value) (σ' : Sg) (pc : Nat) (lv : List (Nat × Value)) (st : List Value) (σ : Sg) : Prop := G l b cy D (rm d) y cc ret nL 0 0 (r, shF, NP, σ') pc lv st 0 0 shF NP σ
abbrev Sq (k : Nat) : Prop := isO shF NP k 6 [1, 1, 1, 1]
abbrev Wo (k p : Nat) : Prop := isO shF NP k 9 [p + 3] ∧ Sq p
abbrev Wh (k r e w p : Nat) : Prop := isO shF NP k 8 [r + 3, e + 3, w + 3, 0, 0] ∧ isR shF NP r 0 40 [] ∧ Sq e ∧ Wo w p
abbrev Ki (k s h r e w p : Nat) : Prop := isO shF NP k 3 [s + 3, h + 3, 0, 0] ∧ Sq s ∧ Wh h r e w p
abbrev Sf (k c : Nat) : Prop := isO shF NP k 5 [c + 3, 0] ∧ isR shF NP c 0 48 []
abbrev Im (k f c : Nat) : Prop := isO shF NP k 1 [f + 3, 0, 0] ∧ Sf f c
def bI (p : Bool) : Int32 := if p then 1 else 0
theorem bI_t : bI true = 1 := rfl
theorem bI_f : bI false = 0 := rfl
theorem bI_01 (p : Bool) : bI p = 0 ∨ bI p = 1 := by cases p <;> simp [bI]
theorem bf {p : Bool} (h : p = false) : ¬ p = true := by rw [h]; decide
theorem bI_z {p : Bool} (h : bI p = 0) : p = false := by cases p <;> first | rfl | exact absurd h (by decide)
theorem bI_nz {p : Bool} (h : ¬ bI p = 0) : p = true := by cases p <;> first | rfl | exact absurd rfl h
theorem bI_inj {p q : Bool} : bI p = bI q ↔ p = q := by cases p <;> cases q <;> decide
theorem rm_nat {d : Nat} {st : List Value} (h : 1 ≤ d) (hs : (st.map fun v => v.category).sum ≤ 8 := by exact Nat.le_of_ble_eq_true rfl) : 1 ≤ (rm d).frames ∧ (st.map fun v => v.category).sum + (nativeFrameWords "java/lang/System" "arraycopy" 5 + 11) ≤ (rm d).locals := by
  refine ⟨h, ?_⟩
  have e : nativeFrameWords "java/lang/System" "arraycopy" 5 + 11 ≤ 32 := by decide +kernel
  show _ ≤ 40 * d
  omega
section
variable {l : Launch} {b : Nat} {cy : Nat → ClassId} {D : va_G} {R : Room} {y : MethodName} {cc : ByteArray} {ret : Option FieldType} {nL mc ms : Nat} {Z : Zt} {pc pc' tgt : Nat} {lv lv' : List (Nat × Value)} {st : List Value} {kc ks : Nat} {sh : Nat → Shp} {n : Nat} {σ : Sg} {off : Int}
theorem g_ifb_eq {p : Bool} (hd : decode cc pc = .ok (.ifCond .eq off, 3)) (hp : pc + 3 = pc') (ht : (pc : Int) + off = (tgt : Int)) (kt : p = false → G l b cy D R y cc ret nL mc ms Z tgt lv st kc ks sh n σ) (kf : p = true → G l b cy D R y cc ret nL mc ms Z pc' lv st kc ks sh n σ) : G l b cy D R y cc ret nL mc ms Z pc lv (.int (bI p) :: st) kc ks sh n σ := g_if_eq hd hp ht (fun h => kt (bI_z h)) (fun h => kf (bI_nz h))
theorem g_ifb_ne {p : Bool} (hd : decode cc pc = .ok (.ifCond .ne off, 3)) (hp : pc + 3 = pc') (ht : (pc : Int) + off = (tgt : Int)) (kt : p = true → G l b cy D R y cc ret nL mc ms Z tgt lv st kc ks sh n σ) (kf : p = false → G l b cy D R y cc ret nL mc ms Z pc' lv st kc ks sh n σ) : G l b cy D R y cc ret nL mc ms Z pc lv (.int (bI p) :: st) kc ks sh n σ := g_if_ne hd hp ht (fun h => kt (bI_nz h)) (fun h => kf (bI_z h))
end
theorem o0 : isO shF NP 0 10 [4, 6, 48, 50, 54, 153, 154, 155, 156, 0] := ⟨by decide, rfl⟩
theorem o1 : isO shF NP 1 5 [5, 0] := ⟨by decide, rfl⟩
theorem o2 : isR shF NP 2 0 48 [] := ⟨by decide, rfl⟩
theorem o3 : isO shF NP 3 4 [7, 0, 0] := ⟨by decide, rfl⟩
theorem o4 : isR shF NP 4 3 20 [6, 8, 10, 12, 14, 16, 18, 20, 22, 24, 26, 28, 30, 32, 34, 36, 38, 40, 42, 44] := ⟨by decide, rfl⟩
theorem o5 : isO shF NP 5 5 [9, 0] := ⟨by decide, rfl⟩
theorem o6 : isR shF NP 6 0 48 [] := ⟨by decide, rfl⟩
theorem o7 : isO shF NP 7 5 [11, 0] := ⟨by decide, rfl⟩
theorem o8 : isR shF NP 8 0 48 [] := ⟨by decide, rfl⟩
theorem o9 : isO shF NP 9 5 [13, 0] := ⟨by decide, rfl⟩
theorem o10 : isR shF NP 10 0 48 [] := ⟨by decide, rfl⟩
theorem o11 : isO shF NP 11 5 [15, 0] := ⟨by decide, rfl⟩
theorem o12 : isR shF NP 12 0 48 [] := ⟨by decide, rfl⟩
theorem o13 : isO shF NP 13 5 [17, 0] := ⟨by decide, rfl⟩
theorem o14 : isR shF NP 14 0 48 [] := ⟨by decide, rfl⟩
theorem o15 : isO shF NP 15 5 [19, 0] := ⟨by decide, rfl⟩
theorem o16 : isR shF NP 16 0 48 [] := ⟨by decide, rfl⟩
theorem o17 : isO shF NP 17 5 [21, 0] := ⟨by decide, rfl⟩
theorem o18 : isR shF NP 18 0 48 [] := ⟨by decide, rfl⟩
theorem o19 : isO shF NP 19 5 [23, 0] := ⟨by decide, rfl⟩
theorem o20 : isR shF NP 20 0 48 [] := ⟨by decide, rfl⟩
theorem o21 : isO shF NP 21 5 [25, 0] := ⟨by decide, rfl⟩
theorem o22 : isR shF NP 22 0 48 [] := ⟨by decide, rfl⟩
theorem o23 : isO shF NP 23 5 [27, 0] := ⟨by decide, rfl⟩
theorem o24 : isR shF NP 24 0 48 [] := ⟨by decide, rfl⟩
theorem o25 : isO shF NP 25 5 [29, 0] := ⟨by decide, rfl⟩
theorem o26 : isR shF NP 26 0 48 [] := ⟨by decide, rfl⟩
theorem o27 : isO shF NP 27 5 [31, 0] := ⟨by decide, rfl⟩
theorem o28 : isR shF NP 28 0 48 [] := ⟨by decide, rfl⟩
theorem o29 : isO shF NP 29 5 [33, 0] := ⟨by decide, rfl⟩
theorem o30 : isR shF NP 30 0 48 [] := ⟨by decide, rfl⟩
theorem o31 : isO shF NP 31 5 [35, 0] := ⟨by decide, rfl⟩
theorem o32 : isR shF NP 32 0 48 [] := ⟨by decide, rfl⟩
theorem o33 : isO shF NP 33 5 [37, 0] := ⟨by decide, rfl⟩
theorem o34 : isR shF NP 34 0 48 [] := ⟨by decide, rfl⟩
theorem o35 : isO shF NP 35 5 [39, 0] := ⟨by decide, rfl⟩
theorem o36 : isR shF NP 36 0 48 [] := ⟨by decide, rfl⟩
theorem o37 : isO shF NP 37 5 [41, 0] := ⟨by decide, rfl⟩
theorem o38 : isR shF NP 38 0 48 [] := ⟨by decide, rfl⟩
theorem o39 : isO shF NP 39 5 [43, 0] := ⟨by decide, rfl⟩
theorem o40 : isR shF NP 40 0 48 [] := ⟨by decide, rfl⟩
theorem o41 : isO shF NP 41 5 [45, 0] := ⟨by decide, rfl⟩
theorem o42 : isR shF NP 42 0 48 [] := ⟨by decide, rfl⟩
theorem o43 : isO shF NP 43 5 [47, 0] := ⟨by decide, rfl⟩
theorem o44 : isR shF NP 44 0 48 [] := ⟨by decide, rfl⟩
theorem o45 : isO shF NP 45 7 [49, 0, 0] := ⟨by decide, rfl⟩
theorem o46 : isR shF NP 46 0 60 [] := ⟨by decide, rfl⟩
theorem o47 : isO shF NP 47 0 [51, 52, 53, 0] := ⟨by decide, rfl⟩
theorem o48 : isR shF NP 48 0 20 [] := ⟨by decide, rfl⟩
theorem o49 : isR shF NP 49 0 20 [] := ⟨by decide, rfl⟩
theorem o50 : isR shF NP 50 2 20 [] := ⟨by decide, rfl⟩
theorem o51 : isO shF NP 51 2 [4, 55, 56, 63, 64, 65, 66, 67] := ⟨by decide, rfl⟩
theorem o52 : isR shF NP 52 4 12 [67, 74, 81, 88, 95, 102, 109, 116, 123, 130, 137, 144] := ⟨by decide, rfl⟩
theorem o53 : isO shF NP 53 3 [57, 58, 0, 0] := ⟨by decide, rfl⟩
theorem o54 : isO shF NP 54 6 [1, 1, 1, 1] := ⟨by decide, rfl⟩
theorem o55 : isO shF NP 55 8 [59, 60, 61, 0, 0] := ⟨by decide, rfl⟩
theorem o56 : isR shF NP 56 0 40 [] := ⟨by decide, rfl⟩
theorem o57 : isO shF NP 57 6 [1, 1, 1, 1] := ⟨by decide, rfl⟩
theorem o58 : isO shF NP 58 9 [62] := ⟨by decide, rfl⟩
theorem o59 : isO shF NP 59 6 [1, 1, 1, 1] := ⟨by decide, rfl⟩
theorem o60 : isO shF NP 60 6 [1, 1, 1, 1] := ⟨by decide, rfl⟩
theorem o61 : isO shF NP 61 6 [1, 1, 1, 1] := ⟨by decide, rfl⟩
theorem o62 : isO shF NP 62 6 [1, 1, 1, 1] := ⟨by decide, rfl⟩
theorem o63 : isO shF NP 63 6 [1, 1, 1, 1] := ⟨by decide, rfl⟩
theorem o64 : isO shF NP 64 9 [68] := ⟨by decide, rfl⟩
theorem o65 : isO shF NP 65 6 [1, 1, 1, 1] := ⟨by decide, rfl⟩
theorem o66 : isO shF NP 66 3 [70, 71, 0, 0] := ⟨by decide, rfl⟩
theorem o67 : isO shF NP 67 6 [1, 1, 1, 1] := ⟨by decide, rfl⟩
theorem o68 : isO shF NP 68 8 [72, 73, 74, 0, 0] := ⟨by decide, rfl⟩
theorem o69 : isR shF NP 69 0 40 [] := ⟨by decide, rfl⟩
theorem o70 : isO shF NP 70 6 [1, 1, 1, 1] := ⟨by decide, rfl⟩
theorem o71 : isO shF NP 71 9 [75] := ⟨by decide, rfl⟩
theorem o72 : isO shF NP 72 6 [1, 1, 1, 1] := ⟨by decide, rfl⟩
theorem o73 : isO shF NP 73 3 [77, 78, 0, 0] := ⟨by decide, rfl⟩
theorem o74 : isO shF NP 74 6 [1, 1, 1, 1] := ⟨by decide, rfl⟩
theorem o75 : isO shF NP 75 8 [79, 80, 81, 0, 0] := ⟨by decide, rfl⟩
theorem o76 : isR shF NP 76 0 40 [] := ⟨by decide, rfl⟩
theorem o77 : isO shF NP 77 6 [1, 1, 1, 1] := ⟨by decide, rfl⟩
theorem o78 : isO shF NP 78 9 [82] := ⟨by decide, rfl⟩
theorem o79 : isO shF NP 79 6 [1, 1, 1, 1] := ⟨by decide, rfl⟩
theorem o80 : isO shF NP 80 3 [84, 85, 0, 0] := ⟨by decide, rfl⟩
theorem o81 : isO shF NP 81 6 [1, 1, 1, 1] := ⟨by decide, rfl⟩
theorem o82 : isO shF NP 82 8 [86, 87, 88, 0, 0] := ⟨by decide, rfl⟩
theorem o83 : isR shF NP 83 0 40 [] := ⟨by decide, rfl⟩
theorem o84 : isO shF NP 84 6 [1, 1, 1, 1] := ⟨by decide, rfl⟩
theorem o85 : isO shF NP 85 9 [89] := ⟨by decide, rfl⟩
theorem o86 : isO shF NP 86 6 [1, 1, 1, 1] := ⟨by decide, rfl⟩
theorem o87 : isO shF NP 87 3 [91, 92, 0, 0] := ⟨by decide, rfl⟩
theorem o88 : isO shF NP 88 6 [1, 1, 1, 1] := ⟨by decide, rfl⟩
theorem o89 : isO shF NP 89 8 [93, 94, 95, 0, 0] := ⟨by decide, rfl⟩
theorem o90 : isR shF NP 90 0 40 [] := ⟨by decide, rfl⟩
theorem o91 : isO shF NP 91 6 [1, 1, 1, 1] := ⟨by decide, rfl⟩
theorem o92 : isO shF NP 92 9 [96] := ⟨by decide, rfl⟩
theorem o93 : isO shF NP 93 6 [1, 1, 1, 1] := ⟨by decide, rfl⟩
theorem o94 : isO shF NP 94 3 [98, 99, 0, 0] := ⟨by decide, rfl⟩
theorem o95 : isO shF NP 95 6 [1, 1, 1, 1] := ⟨by decide, rfl⟩
theorem o96 : isO shF NP 96 8 [100, 101, 102, 0, 0] := ⟨by decide, rfl⟩
theorem o97 : isR shF NP 97 0 40 [] := ⟨by decide, rfl⟩
theorem o98 : isO shF NP 98 6 [1, 1, 1, 1] := ⟨by decide, rfl⟩
theorem o99 : isO shF NP 99 9 [103] := ⟨by decide, rfl⟩
theorem o100 : isO shF NP 100 6 [1, 1, 1, 1] := ⟨by decide, rfl⟩
theorem o101 : isO shF NP 101 3 [105, 106, 0, 0] := ⟨by decide, rfl⟩
theorem o102 : isO shF NP 102 6 [1, 1, 1, 1] := ⟨by decide, rfl⟩
theorem o103 : isO shF NP 103 8 [107, 108, 109, 0, 0] := ⟨by decide, rfl⟩
theorem o104 : isR shF NP 104 0 40 [] := ⟨by decide, rfl⟩
theorem o105 : isO shF NP 105 6 [1, 1, 1, 1] := ⟨by decide, rfl⟩
theorem o106 : isO shF NP 106 9 [110] := ⟨by decide, rfl⟩
theorem o107 : isO shF NP 107 6 [1, 1, 1, 1] := ⟨by decide, rfl⟩
theorem o108 : isO shF NP 108 3 [112, 113, 0, 0] := ⟨by decide, rfl⟩
theorem o109 : isO shF NP 109 6 [1, 1, 1, 1] := ⟨by decide, rfl⟩
theorem o110 : isO shF NP 110 8 [114, 115, 116, 0, 0] := ⟨by decide, rfl⟩
theorem o111 : isR shF NP 111 0 40 [] := ⟨by decide, rfl⟩
theorem o112 : isO shF NP 112 6 [1, 1, 1, 1] := ⟨by decide, rfl⟩
theorem o113 : isO shF NP 113 9 [117] := ⟨by decide, rfl⟩
theorem o114 : isO shF NP 114 6 [1, 1, 1, 1] := ⟨by decide, rfl⟩
theorem o115 : isO shF NP 115 3 [119, 120, 0, 0] := ⟨by decide, rfl⟩
theorem o116 : isO shF NP 116 6 [1, 1, 1, 1] := ⟨by decide, rfl⟩
theorem o117 : isO shF NP 117 8 [121, 122, 123, 0, 0] := ⟨by decide, rfl⟩
theorem o118 : isR shF NP 118 0 40 [] := ⟨by decide, rfl⟩
theorem o119 : isO shF NP 119 6 [1, 1, 1, 1] := ⟨by decide, rfl⟩
theorem o120 : isO shF NP 120 9 [124] := ⟨by decide, rfl⟩
theorem o121 : isO shF NP 121 6 [1, 1, 1, 1] := ⟨by decide, rfl⟩
theorem o122 : isO shF NP 122 3 [126, 127, 0, 0] := ⟨by decide, rfl⟩
theorem o123 : isO shF NP 123 6 [1, 1, 1, 1] := ⟨by decide, rfl⟩
theorem o124 : isO shF NP 124 8 [128, 129, 130, 0, 0] := ⟨by decide, rfl⟩
theorem o125 : isR shF NP 125 0 40 [] := ⟨by decide, rfl⟩
theorem o126 : isO shF NP 126 6 [1, 1, 1, 1] := ⟨by decide, rfl⟩
theorem o127 : isO shF NP 127 9 [131] := ⟨by decide, rfl⟩
theorem o128 : isO shF NP 128 6 [1, 1, 1, 1] := ⟨by decide, rfl⟩
theorem o129 : isO shF NP 129 3 [133, 134, 0, 0] := ⟨by decide, rfl⟩
theorem o130 : isO shF NP 130 6 [1, 1, 1, 1] := ⟨by decide, rfl⟩
theorem o131 : isO shF NP 131 8 [135, 136, 137, 0, 0] := ⟨by decide, rfl⟩
theorem o132 : isR shF NP 132 0 40 [] := ⟨by decide, rfl⟩
theorem o133 : isO shF NP 133 6 [1, 1, 1, 1] := ⟨by decide, rfl⟩
theorem o134 : isO shF NP 134 9 [138] := ⟨by decide, rfl⟩
theorem o135 : isO shF NP 135 6 [1, 1, 1, 1] := ⟨by decide, rfl⟩
theorem o136 : isO shF NP 136 3 [140, 141, 0, 0] := ⟨by decide, rfl⟩
theorem o137 : isO shF NP 137 6 [1, 1, 1, 1] := ⟨by decide, rfl⟩
theorem o138 : isO shF NP 138 8 [142, 143, 144, 0, 0] := ⟨by decide, rfl⟩
theorem o139 : isR shF NP 139 0 40 [] := ⟨by decide, rfl⟩
theorem o140 : isO shF NP 140 6 [1, 1, 1, 1] := ⟨by decide, rfl⟩
theorem o141 : isO shF NP 141 9 [145] := ⟨by decide, rfl⟩
theorem o142 : isO shF NP 142 6 [1, 1, 1, 1] := ⟨by decide, rfl⟩
theorem o143 : isO shF NP 143 3 [147, 148, 0, 0] := ⟨by decide, rfl⟩
theorem o144 : isO shF NP 144 6 [1, 1, 1, 1] := ⟨by decide, rfl⟩
theorem o145 : isO shF NP 145 8 [149, 150, 151, 0, 0] := ⟨by decide, rfl⟩
theorem o146 : isR shF NP 146 0 40 [] := ⟨by decide, rfl⟩
theorem o147 : isO shF NP 147 6 [1, 1, 1, 1] := ⟨by decide, rfl⟩
theorem o148 : isO shF NP 148 9 [152] := ⟨by decide, rfl⟩
theorem o149 : isO shF NP 149 6 [1, 1, 1, 1] := ⟨by decide, rfl⟩
theorem o150 : isR shF NP 150 5 2 [155, 158] := ⟨by decide, rfl⟩
theorem o151 : isO shF NP 151 6 [1, 1, 1, 1] := ⟨by decide, rfl⟩
theorem o152 : isO shF NP 152 6 [1, 1, 1, 1] := ⟨by decide, rfl⟩
theorem o153 : isO shF NP 153 6 [1, 1, 1, 1] := ⟨by decide, rfl⟩
theorem o154 : isO shF NP 154 1 [158, 0, 0] := ⟨by decide, rfl⟩
theorem o155 : isO shF NP 155 5 [159, 0] := ⟨by decide, rfl⟩
theorem o156 : isR shF NP 156 0 48 [] := ⟨by decide, rfl⟩
theorem o157 : isO shF NP 157 1 [161, 0, 0] := ⟨by decide, rfl⟩
theorem o158 : isO shF NP 158 5 [162, 0] := ⟨by decide, rfl⟩
theorem o159 : isR shF NP 159 0 48 [] := ⟨by decide, rfl⟩
theorem o160 : isO shF NP 160 11 [164, 165, 0, 166, 167, 0, 168, 0, 0, 169, 0, 1, 1, 1, 1, 0, 1, 1, 170, 0, 0, 1, 1, 171, 172, 0, 0, 1, 1, 0, 0, 1, 173, 174] := ⟨by decide, rfl⟩
theorem o161 : isR shF NP 161 0 49 [] := ⟨by decide, rfl⟩
theorem o162 : isR shF NP 162 0 980 [] := ⟨by decide, rfl⟩
theorem o163 : isR shF NP 163 0 100 [] := ⟨by decide, rfl⟩
theorem o164 : isR shF NP 164 2 2 [] := ⟨by decide, rfl⟩
theorem o165 : isR shF NP 165 0 60 [] := ⟨by decide, rfl⟩
theorem o166 : isR shF NP 166 0 60 [] := ⟨by decide, rfl⟩
theorem o167 : isR shF NP 167 0 64 [] := ⟨by decide, rfl⟩
theorem o168 : isR shF NP 168 0 64 [] := ⟨by decide, rfl⟩
theorem o169 : isR shF NP 169 0 64 [] := ⟨by decide, rfl⟩
theorem o170 : isR shF NP 170 0 64 [] := ⟨by decide, rfl⟩
theorem o171 : isR shF NP 171 1 4 [] := ⟨by decide, rfl⟩
theorem ki53 : Ki 53 54 55 56 57 58 59 := ⟨o53, o54, o55, o56, o57, o58, o59⟩
theorem sf1 : Sf 1 2 := ⟨o1, o2⟩
theorem wo64 : Wo 64 65 := ⟨o64, o65⟩
theorem ki_0 : ∀ s, s < 12 → isO shF NP (66 + 7 * s) 3 [66 + 7 * s + 1 + 3, 66 + 7 * s + 2 + 3, 0, 0] := by unfold isO; decide +kernel
theorem ki_1 : ∀ s, s < 12 → isO shF NP (66 + 7 * s + 1) 6 [1, 1, 1, 1] := by unfold isO; decide +kernel
theorem ki_2 : ∀ s, s < 12 → isO shF NP (66 + 7 * s + 2) 8 [66 + 7 * s + 3 + 3, 66 + 7 * s + 4 + 3, 66 + 7 * s + 5 + 3, 0, 0] := by unfold isO; decide +kernel
theorem ki_3 : ∀ s, s < 12 → isR shF NP (66 + 7 * s + 3) 0 40 [] := by unfold isR; decide +kernel
theorem ki_4 : ∀ s, s < 12 → isO shF NP (66 + 7 * s + 4) 6 [1, 1, 1, 1] := by unfold isO; decide +kernel
theorem ki_5 : ∀ s, s < 12 → isO shF NP (66 + 7 * s + 5) 9 [66 + 7 * s + 6 + 3] := by unfold isO; decide +kernel
theorem ki_6 : ∀ s, s < 12 → isO shF NP (66 + 7 * s + 6) 6 [1, 1, 1, 1] := by unfold isO; decide +kernel
theorem kiN (s : Nat) (h : s < 12) : Ki (66 + 7 * s) (66 + 7 * s + 1) (66 + 7 * s + 2) (66 + 7 * s + 3) (66 + 7 * s + 4) (66 + 7 * s + 5) (66 + 7 * s + 6) := ⟨ki_0 s h, ki_1 s h, ki_2 s h, ki_3 s h, ki_4 s h, ki_5 s h, ki_6 s h⟩
theorem sfN : ∀ s, s < 20 → Sf (5 + 2 * s) (5 + 2 * s + 1) := by
  unfold Sf isO isR
  decide +kernel
theorem im_0 : ∀ s, s < 2 → isO shF NP (154 + 3 * s) 1 [154 + 3 * s + 1 + 3, 0, 0] := by unfold isO; decide +kernel
theorem im_1 : ∀ s, s < 2 → isO shF NP (154 + 3 * s + 1) 5 [154 + 3 * s + 2 + 3, 0] := by unfold isO; decide +kernel
theorem im_2 : ∀ s, s < 2 → isR shF NP (154 + 3 * s + 2) 0 48 [] := by unfold isR; decide +kernel
theorem imN (s : Nat) (h : s < 2) : Im (154 + 3 * s) (154 + 3 * s + 1) (154 + 3 * s + 2) := ⟨im_0 s h, im_1 s h, im_2 s h⟩
theorem ak : ∀ s, s < 12 → ([67, 74, 81, 88, 95, 102, 109, 116, 123, 130, 137, 144] : List Nat)[s]? = some (66 + 7 * s + 1) := by decide +kernel
theorem as : ∀ s, s < 20 → ([6, 8, 10, 12, 14, 16, 18, 20, 22, 24, 26, 28, 30, 32, 34, 36, 38, 40, 42, 44] : List Nat)[s]? = some (5 + 2 * s + 1) := by decide +kernel
theorem ai : ∀ s, s < 2 → ([155, 158] : List Nat)[s]? = some (154 + 3 * s + 1) := by decide +kernel
