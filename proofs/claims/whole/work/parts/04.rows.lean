section
variable {l : Launch} {b : Nat} {cy : Nat → ClassId} {D : va_G} {R : Room} {y : MethodName} {cc : ByteArray} {ret : Option FieldType} {nL mc ms : Nat} {Z : Zt} {pc pc' tgt : Nat} {lv lv' : List (Nat × Value)} {st : List Value} {kc ks : Nat} {sh : Nat → Shp} {n : Nat} {σ : Sg} {off : Int}

theorem g_iconst {z : Int} {v : Int32} (hd : decode cc pc = .ok (.iconst z, 1)) (hp : pc + 1 = pc') (hv : Int32.ofInt z = v) (k : G l b cy D R y cc ret nL mc ms Z pc' lv (.int v :: st) kc ks sh n σ) : G l b cy D R y cc ret nL mc ms Z pc lv (st) kc ks sh n σ := by
  subst hp
  intro p e s m args below meth c H locs ls hx hb hr hml hown hts hlk hmn hK hbs hW hS hl
  exact lv_iconst hx hb hd hv (k hx hb hr hml hown hts hlk hmn hK hbs hW hS hl)
theorem g_bipush {z : Int} {v : Int32} (hd : decode cc pc = .ok (.bipush z, 2)) (hp : pc + 2 = pc') (hv : (Int8.ofInt z).toInt32 = v) (k : G l b cy D R y cc ret nL mc ms Z pc' lv (.int v :: st) kc ks sh n σ) : G l b cy D R y cc ret nL mc ms Z pc lv (st) kc ks sh n σ := by
  subst hp
  intro p e s m args below meth c H locs ls hx hb hr hml hown hts hlk hmn hK hbs hW hS hl
  exact lv_bipush hx hb hd hv (k hx hb hr hml hown hts hlk hmn hK hbs hW hS hl)
theorem g_sipush {z : Int} {v : Int32} (hd : decode cc pc = .ok (.sipush z, 3)) (hp : pc + 3 = pc') (hv : (Int16.ofInt z).toInt32 = v) (k : G l b cy D R y cc ret nL mc ms Z pc' lv (.int v :: st) kc ks sh n σ) : G l b cy D R y cc ret nL mc ms Z pc lv (st) kc ks sh n σ := by
  subst hp
  intro p e s m args below meth c H locs ls hx hb hr hml hown hts hlk hmn hK hbs hW hS hl
  exact lv_sipush hx hb hd hv (k hx hb hr hml hown hts hlk hmn hK hbs hW hS hl)
theorem g_lconst {z : Fin 2} {v : Int64} (hd : decode cc pc = .ok (.lconst z, 1)) (hp : pc + 1 = pc') (hv : Int64.ofNat (z : Nat) = v) (k : G l b cy D R y cc ret nL mc ms Z pc' lv (.long v :: st) kc ks sh n σ) : G l b cy D R y cc ret nL mc ms Z pc lv (st) kc ks sh n σ := by
  subst hp
  intro p e s m args below meth c H locs ls hx hb hr hml hown hts hlk hmn hK hbs hW hS hl
  exact lv_lconst hx hb hd hv (k hx hb hr hml hown hts hlk hmn hK hbs hW hS hl)
theorem g_iload_n {z : Fin 4} {x : Int32} (hd : decode cc pc = .ok (.iload_n z, 1)) (hp : pc + 1 = pc') (i : Nat) {j : Nat} (hz : (z : Nat) = j) (hi : lv[i]? = some (j, .int x)) (k : G l b cy D R y cc ret nL mc ms Z pc' lv (.int x :: st) kc ks sh n σ) : G l b cy D R y cc ret nL mc ms Z pc lv (st) kc ks sh n σ := by
  subst hp
  intro p e s m args below meth c H locs ls hx hb hr hml hown hts hlk hmn hK hbs hW hS hl
  exact lv_iload_n hx hb hd hz (lv_at hl i hi) (k hx hb hr hml hown hts hlk hmn hK hbs hW hS hl)
theorem g_iload {j : Nat} {x : Int32} (hd : decode cc pc = .ok (.iload j, 2)) (hp : pc + 2 = pc') (i : Nat) (hi : lv[i]? = some (j, .int x)) (k : G l b cy D R y cc ret nL mc ms Z pc' lv (.int x :: st) kc ks sh n σ) : G l b cy D R y cc ret nL mc ms Z pc lv (st) kc ks sh n σ := by
  subst hp
  intro p e s m args below meth c H locs ls hx hb hr hml hown hts hlk hmn hK hbs hW hS hl
  exact lv_iload hx hb hd (lv_at hl i hi) (k hx hb hr hml hown hts hlk hmn hK hbs hW hS hl)
theorem g_istore_n {z : Fin 4} {j : Nat} {x : Int32} (hd : decode cc pc = .ok (.istore_n z, 1)) (hp : pc + 1 = pc') (hz : (z : Nat) = j) (hn : j < nL) (hl' : (j, Value.int x) :: lv.filter (fun q => !(q.1 == j) && !(q.1 + 1 == j && q.2.category == 2)) = lv') (k : G l b cy D R y cc ret nL mc ms Z pc' lv' st kc ks sh n σ) : G l b cy D R y cc ret nL mc ms Z pc lv (.int x :: st) kc ks sh n σ := by
  subst hp
  intro p e s m args below meth c H locs ls hx hb hr hml hown hts hlk hmn hK hbs hW hS hl
  exact lv_istore_n hx hb hd hz hl hn hl' (fun ls hl => k hx hb hr hml hown hts hlk hmn hK hbs hW hS hl)
theorem g_istore {j : Nat} {x : Int32} (hd : decode cc pc = .ok (.istore j, 2)) (hp : pc + 2 = pc') (hn : j < nL) (hl' : (j, Value.int x) :: lv.filter (fun q => !(q.1 == j) && !(q.1 + 1 == j && q.2.category == 2)) = lv') (k : G l b cy D R y cc ret nL mc ms Z pc' lv' st kc ks sh n σ) : G l b cy D R y cc ret nL mc ms Z pc lv (.int x :: st) kc ks sh n σ := by
  subst hp
  intro p e s m args below meth c H locs ls hx hb hr hml hown hts hlk hmn hK hbs hW hS hl
  exact lv_istore hx hb hd hl hn hl' (fun ls hl => k hx hb hr hml hown hts hlk hmn hK hbs hW hS hl)
theorem g_lload_n {z : Fin 4} {x : Int64} (hd : decode cc pc = .ok (.lload_n z, 1)) (hp : pc + 1 = pc') (i : Nat) {j : Nat} (hz : (z : Nat) = j) (hi : lv[i]? = some (j, .long x)) (k : G l b cy D R y cc ret nL mc ms Z pc' lv (.long x :: st) kc ks sh n σ) : G l b cy D R y cc ret nL mc ms Z pc lv (st) kc ks sh n σ := by
  subst hp
  intro p e s m args below meth c H locs ls hx hb hr hml hown hts hlk hmn hK hbs hW hS hl
  exact lv_lload_n hx hb hd hz (lv_at hl i hi) (k hx hb hr hml hown hts hlk hmn hK hbs hW hS hl)
theorem g_lload {j : Nat} {x : Int64} (hd : decode cc pc = .ok (.lload j, 2)) (hp : pc + 2 = pc') (i : Nat) (hi : lv[i]? = some (j, .long x)) (k : G l b cy D R y cc ret nL mc ms Z pc' lv (.long x :: st) kc ks sh n σ) : G l b cy D R y cc ret nL mc ms Z pc lv (st) kc ks sh n σ := by
  subst hp
  intro p e s m args below meth c H locs ls hx hb hr hml hown hts hlk hmn hK hbs hW hS hl
  exact lv_lload hx hb hd (lv_at hl i hi) (k hx hb hr hml hown hts hlk hmn hK hbs hW hS hl)
theorem g_lstore_n {z : Fin 4} {j : Nat} {x : Int64} (hd : decode cc pc = .ok (.lstore_n z, 1)) (hp : pc + 1 = pc') (hz : (z : Nat) = j) (hn : j + 1 < nL) (hl' : (j, Value.long x) :: lv.filter (fun q => !(q.1 == j) && (!(q.1 == j + 1) && !(q.1 + 1 == j && q.2.category == 2))) = lv') (k : G l b cy D R y cc ret nL mc ms Z pc' lv' st kc ks sh n σ) : G l b cy D R y cc ret nL mc ms Z pc lv (.long x :: st) kc ks sh n σ := by
  subst hp
  intro p e s m args below meth c H locs ls hx hb hr hml hown hts hlk hmn hK hbs hW hS hl
  exact lv_lstore_n hx hb hd hz hl hn hl' (fun ls hl => k hx hb hr hml hown hts hlk hmn hK hbs hW hS hl)
theorem g_lstore {j : Nat} {x : Int64} (hd : decode cc pc = .ok (.lstore j, 2)) (hp : pc + 2 = pc') (hn : j + 1 < nL) (hl' : (j, Value.long x) :: lv.filter (fun q => !(q.1 == j) && (!(q.1 == j + 1) && !(q.1 + 1 == j && q.2.category == 2))) = lv') (k : G l b cy D R y cc ret nL mc ms Z pc' lv' st kc ks sh n σ) : G l b cy D R y cc ret nL mc ms Z pc lv (.long x :: st) kc ks sh n σ := by
  subst hp
  intro p e s m args below meth c H locs ls hx hb hr hml hown hts hlk hmn hK hbs hW hS hl
  exact lv_lstore hx hb hd hl hn hl' (fun ls hl => k hx hb hr hml hown hts hlk hmn hK hbs hW hS hl)
theorem g_aload_n {z : Fin 4} {x : Nat} (hd : decode cc pc = .ok (.aload_n z, 1)) (hp : pc + 1 = pc') (i : Nat) {j : Nat} (hz : (z : Nat) = j) (hi : lv[i]? = some (j, .ref x)) (k : G l b cy D R y cc ret nL mc ms Z pc' lv (.ref x :: st) kc ks sh n σ) : G l b cy D R y cc ret nL mc ms Z pc lv (st) kc ks sh n σ := by
  subst hp
  intro p e s m args below meth c H locs ls hx hb hr hml hown hts hlk hmn hK hbs hW hS hl
  exact lv_aload_n hx hb hd hz (lv_at hl i hi) (k hx hb hr hml hown hts hlk hmn hK hbs hW hS hl)
theorem g_aload {j : Nat} {x : Nat} (hd : decode cc pc = .ok (.aload j, 2)) (hp : pc + 2 = pc') (i : Nat) (hi : lv[i]? = some (j, .ref x)) (k : G l b cy D R y cc ret nL mc ms Z pc' lv (.ref x :: st) kc ks sh n σ) : G l b cy D R y cc ret nL mc ms Z pc lv (st) kc ks sh n σ := by
  subst hp
  intro p e s m args below meth c H locs ls hx hb hr hml hown hts hlk hmn hK hbs hW hS hl
  exact lv_aload hx hb hd (lv_at hl i hi) (k hx hb hr hml hown hts hlk hmn hK hbs hW hS hl)
theorem g_astore_n {z : Fin 4} {j : Nat} {x : Nat} (hd : decode cc pc = .ok (.astore_n z, 1)) (hp : pc + 1 = pc') (hz : (z : Nat) = j) (hn : j < nL) (hl' : (j, Value.ref x) :: lv.filter (fun q => !(q.1 == j) && !(q.1 + 1 == j && q.2.category == 2)) = lv') (k : G l b cy D R y cc ret nL mc ms Z pc' lv' st kc ks sh n σ) : G l b cy D R y cc ret nL mc ms Z pc lv (.ref x :: st) kc ks sh n σ := by
  subst hp
  intro p e s m args below meth c H locs ls hx hb hr hml hown hts hlk hmn hK hbs hW hS hl
  exact lv_astore_n hx hb hd hz hl hn hl' (fun ls hl => k hx hb hr hml hown hts hlk hmn hK hbs hW hS hl)
theorem g_astore {j : Nat} {x : Nat} (hd : decode cc pc = .ok (.astore j, 2)) (hp : pc + 2 = pc') (hn : j < nL) (hl' : (j, Value.ref x) :: lv.filter (fun q => !(q.1 == j) && !(q.1 + 1 == j && q.2.category == 2)) = lv') (k : G l b cy D R y cc ret nL mc ms Z pc' lv' st kc ks sh n σ) : G l b cy D R y cc ret nL mc ms Z pc lv (.ref x :: st) kc ks sh n σ := by
  subst hp
  intro p e s m args below meth c H locs ls hx hb hr hml hown hts hlk hmn hK hbs hW hS hl
  exact lv_astore hx hb hd hl hn hl' (fun ls hl => k hx hb hr hml hown hts hlk hmn hK hbs hW hS hl)
theorem g_iinc {j : Nat} {z : Int} {x v : Int32} (hd : decode cc pc = .ok (.iinc j z, 3)) (hp : pc + 3 = pc') (i : Nat) (hi : lv[i]? = some (j, .int x)) (hv : x + Int32.ofInt z = v) (hn : j < nL) (hl' : (j, Value.int v) :: lv.filter (fun q => !(q.1 == j) && !(q.1 + 1 == j && q.2.category == 2)) = lv') (k : G l b cy D R y cc ret nL mc ms Z pc' lv' st kc ks sh n σ) : G l b cy D R y cc ret nL mc ms Z pc lv st kc ks sh n σ := by
  subst hp
  intro p e s m args below meth c H locs ls hx hb hr hml hown hts hlk hmn hK hbs hW hS hl
  exact lv_iinc hx hb hd hl hi hv hn hl' (fun ls hl => k hx hb hr hml hown hts hlk hmn hK hbs hW hS hl)
theorem g_iadd {x w : Int32} (hd : decode cc pc = .ok (.iadd, 1)) (hp : pc + 1 = pc') (k : G l b cy D R y cc ret nL mc ms Z pc' lv (.int (x + w) :: st) kc ks sh n σ) : G l b cy D R y cc ret nL mc ms Z pc lv (.int w :: .int x :: st) kc ks sh n σ := by
  subst hp
  intro p e s m args below meth c H locs ls hx hb hr hml hown hts hlk hmn hK hbs hW hS hl
  exact lv_iadd hx hb hd (k hx hb hr hml hown hts hlk hmn hK hbs hW hS hl)
theorem g_isub {x w : Int32} (hd : decode cc pc = .ok (.isub, 1)) (hp : pc + 1 = pc') (k : G l b cy D R y cc ret nL mc ms Z pc' lv (.int (x - w) :: st) kc ks sh n σ) : G l b cy D R y cc ret nL mc ms Z pc lv (.int w :: .int x :: st) kc ks sh n σ := by
  subst hp
  intro p e s m args below meth c H locs ls hx hb hr hml hown hts hlk hmn hK hbs hW hS hl
  exact lv_isub hx hb hd (k hx hb hr hml hown hts hlk hmn hK hbs hW hS hl)
theorem g_imul {x w : Int32} (hd : decode cc pc = .ok (.imul, 1)) (hp : pc + 1 = pc') (k : G l b cy D R y cc ret nL mc ms Z pc' lv (.int (x * w) :: st) kc ks sh n σ) : G l b cy D R y cc ret nL mc ms Z pc lv (.int w :: .int x :: st) kc ks sh n σ := by
  subst hp
  intro p e s m args below meth c H locs ls hx hb hr hml hown hts hlk hmn hK hbs hW hS hl
  exact lv_imul hx hb hd (k hx hb hr hml hown hts hlk hmn hK hbs hW hS hl)
theorem g_iand {x w : Int32} (hd : decode cc pc = .ok (.iand, 1)) (hp : pc + 1 = pc') (k : G l b cy D R y cc ret nL mc ms Z pc' lv (.int (x &&& w) :: st) kc ks sh n σ) : G l b cy D R y cc ret nL mc ms Z pc lv (.int w :: .int x :: st) kc ks sh n σ := by
  subst hp
  intro p e s m args below meth c H locs ls hx hb hr hml hown hts hlk hmn hK hbs hW hS hl
  exact lv_iand hx hb hd (k hx hb hr hml hown hts hlk hmn hK hbs hW hS hl)
theorem g_ior {x w : Int32} (hd : decode cc pc = .ok (.ior, 1)) (hp : pc + 1 = pc') (k : G l b cy D R y cc ret nL mc ms Z pc' lv (.int (x ||| w) :: st) kc ks sh n σ) : G l b cy D R y cc ret nL mc ms Z pc lv (.int w :: .int x :: st) kc ks sh n σ := by
  subst hp
  intro p e s m args below meth c H locs ls hx hb hr hml hown hts hlk hmn hK hbs hW hS hl
  exact lv_ior hx hb hd (k hx hb hr hml hown hts hlk hmn hK hbs hW hS hl)
theorem g_ixor {x w : Int32} (hd : decode cc pc = .ok (.ixor, 1)) (hp : pc + 1 = pc') (k : G l b cy D R y cc ret nL mc ms Z pc' lv (.int (x ^^^ w) :: st) kc ks sh n σ) : G l b cy D R y cc ret nL mc ms Z pc lv (.int w :: .int x :: st) kc ks sh n σ := by
  subst hp
  intro p e s m args below meth c H locs ls hx hb hr hml hown hts hlk hmn hK hbs hW hS hl
  exact lv_ixor hx hb hd (k hx hb hr hml hown hts hlk hmn hK hbs hW hS hl)
theorem g_ishl {x w : Int32} (hd : decode cc pc = .ok (.ishl, 1)) (hp : pc + 1 = pc') (k : G l b cy D R y cc ret nL mc ms Z pc' lv (.int (x <<< (w &&& 31)) :: st) kc ks sh n σ) : G l b cy D R y cc ret nL mc ms Z pc lv (.int w :: .int x :: st) kc ks sh n σ := by
  subst hp
  intro p e s m args below meth c H locs ls hx hb hr hml hown hts hlk hmn hK hbs hW hS hl
  exact lv_ishl hx hb hd (k hx hb hr hml hown hts hlk hmn hK hbs hW hS hl)
theorem g_idiv {x w : Int32} (hd : decode cc pc = .ok (.idiv, 1)) (hp : pc + 1 = pc') (h0 : ¬ w = 0) (k : G l b cy D R y cc ret nL mc ms Z pc' lv (.int (x / w) :: st) kc ks sh n σ) : G l b cy D R y cc ret nL mc ms Z pc lv (.int w :: .int x :: st) kc ks sh n σ := by
  subst hp
  intro p e s m args below meth c H locs ls hx hb hr hml hown hts hlk hmn hK hbs hW hS hl
  exact lv_idiv hx hb hd h0 (k hx hb hr hml hown hts hlk hmn hK hbs hW hS hl)
theorem g_irem {x w : Int32} (hd : decode cc pc = .ok (.irem, 1)) (hp : pc + 1 = pc') (h0 : ¬ w = 0) (k : G l b cy D R y cc ret nL mc ms Z pc' lv (.int (x - x / w * w) :: st) kc ks sh n σ) : G l b cy D R y cc ret nL mc ms Z pc lv (.int w :: .int x :: st) kc ks sh n σ := by
  subst hp
  intro p e s m args below meth c H locs ls hx hb hr hml hown hts hlk hmn hK hbs hW hS hl
  exact lv_irem hx hb hd h0 (k hx hb hr hml hown hts hlk hmn hK hbs hW hS hl)
theorem g_iushr {x w : Int32} (hd : decode cc pc = .ok (.iushr, 1)) (hp : pc + 1 = pc') (k : G l b cy D R y cc ret nL mc ms Z pc' lv (.int (x.toUInt32 >>> (w.toUInt32 &&& Int32.toUInt32 31)).toInt32 :: st) kc ks sh n σ) : G l b cy D R y cc ret nL mc ms Z pc lv (.int w :: .int x :: st) kc ks sh n σ := by
  subst hp
  intro p e s m args below meth c H locs ls hx hb hr hml hown hts hlk hmn hK hbs hW hS hl
  exact lv_iushr hx hb hd rfl (k hx hb hr hml hown hts hlk hmn hK hbs hW hS hl)
theorem g_ladd {x w : Int64} (hd : decode cc pc = .ok (.ladd, 1)) (hp : pc + 1 = pc') (k : G l b cy D R y cc ret nL mc ms Z pc' lv (.long (x + w) :: st) kc ks sh n σ) : G l b cy D R y cc ret nL mc ms Z pc lv (.long w :: .long x :: st) kc ks sh n σ := by
  subst hp
  intro p e s m args below meth c H locs ls hx hb hr hml hown hts hlk hmn hK hbs hW hS hl
  exact lv_ladd hx hb hd (k hx hb hr hml hown hts hlk hmn hK hbs hW hS hl)
theorem g_lsub {x w : Int64} (hd : decode cc pc = .ok (.lsub, 1)) (hp : pc + 1 = pc') (k : G l b cy D R y cc ret nL mc ms Z pc' lv (.long (x - w) :: st) kc ks sh n σ) : G l b cy D R y cc ret nL mc ms Z pc lv (.long w :: .long x :: st) kc ks sh n σ := by
  subst hp
  intro p e s m args below meth c H locs ls hx hb hr hml hown hts hlk hmn hK hbs hW hS hl
  exact lv_lsub hx hb hd (k hx hb hr hml hown hts hlk hmn hK hbs hW hS hl)
theorem g_lmul {x w : Int64} (hd : decode cc pc = .ok (.lmul, 1)) (hp : pc + 1 = pc') (k : G l b cy D R y cc ret nL mc ms Z pc' lv (.long (x * w) :: st) kc ks sh n σ) : G l b cy D R y cc ret nL mc ms Z pc lv (.long w :: .long x :: st) kc ks sh n σ := by
  subst hp
  intro p e s m args below meth c H locs ls hx hb hr hml hown hts hlk hmn hK hbs hW hS hl
  exact lv_lmul hx hb hd (k hx hb hr hml hown hts hlk hmn hK hbs hW hS hl)
theorem g_land {x w : Int64} (hd : decode cc pc = .ok (.land, 1)) (hp : pc + 1 = pc') (k : G l b cy D R y cc ret nL mc ms Z pc' lv (.long (x &&& w) :: st) kc ks sh n σ) : G l b cy D R y cc ret nL mc ms Z pc lv (.long w :: .long x :: st) kc ks sh n σ := by
  subst hp
  intro p e s m args below meth c H locs ls hx hb hr hml hown hts hlk hmn hK hbs hW hS hl
  exact lv_land hx hb hd (k hx hb hr hml hown hts hlk hmn hK hbs hW hS hl)
theorem g_lor {x w : Int64} (hd : decode cc pc = .ok (.lor, 1)) (hp : pc + 1 = pc') (k : G l b cy D R y cc ret nL mc ms Z pc' lv (.long (x ||| w) :: st) kc ks sh n σ) : G l b cy D R y cc ret nL mc ms Z pc lv (.long w :: .long x :: st) kc ks sh n σ := by
  subst hp
  intro p e s m args below meth c H locs ls hx hb hr hml hown hts hlk hmn hK hbs hW hS hl
  exact lv_lor hx hb hd (k hx hb hr hml hown hts hlk hmn hK hbs hW hS hl)
theorem g_lxor {x w : Int64} (hd : decode cc pc = .ok (.lxor, 1)) (hp : pc + 1 = pc') (k : G l b cy D R y cc ret nL mc ms Z pc' lv (.long (x ^^^ w) :: st) kc ks sh n σ) : G l b cy D R y cc ret nL mc ms Z pc lv (.long w :: .long x :: st) kc ks sh n σ := by
  subst hp
  intro p e s m args below meth c H locs ls hx hb hr hml hown hts hlk hmn hK hbs hW hS hl
  exact lv_lxor hx hb hd (k hx hb hr hml hown hts hlk hmn hK hbs hW hS hl)
theorem g_ldiv {x w : Int64} (hd : decode cc pc = .ok (.ldiv, 1)) (hp : pc + 1 = pc') (h0 : ¬ w = 0) (k : G l b cy D R y cc ret nL mc ms Z pc' lv (.long (x / w) :: st) kc ks sh n σ) : G l b cy D R y cc ret nL mc ms Z pc lv (.long w :: .long x :: st) kc ks sh n σ := by
  subst hp
  intro p e s m args below meth c H locs ls hx hb hr hml hown hts hlk hmn hK hbs hW hS hl
  exact lv_ldiv hx hb hd h0 (k hx hb hr hml hown hts hlk hmn hK hbs hW hS hl)
theorem g_lrem {x w : Int64} (hd : decode cc pc = .ok (.lrem, 1)) (hp : pc + 1 = pc') (h0 : ¬ w = 0) (k : G l b cy D R y cc ret nL mc ms Z pc' lv (.long (x - x / w * w) :: st) kc ks sh n σ) : G l b cy D R y cc ret nL mc ms Z pc lv (.long w :: .long x :: st) kc ks sh n σ := by
  subst hp
  intro p e s m args below meth c H locs ls hx hb hr hml hown hts hlk hmn hK hbs hW hS hl
  exact lv_lrem hx hb hd h0 (k hx hb hr hml hown hts hlk hmn hK hbs hW hS hl)
theorem g_lneg {x : Int64} (hd : decode cc pc = .ok (.lneg, 1)) (hp : pc + 1 = pc') (k : G l b cy D R y cc ret nL mc ms Z pc' lv (.long (-x) :: st) kc ks sh n σ) : G l b cy D R y cc ret nL mc ms Z pc lv (.long x :: st) kc ks sh n σ := by
  subst hp
  intro p e s m args below meth c H locs ls hx hb hr hml hown hts hlk hmn hK hbs hW hS hl
  exact lv_lneg hx hb hd (k hx hb hr hml hown hts hlk hmn hK hbs hW hS hl)
theorem g_ineg {x : Int32} (hd : decode cc pc = .ok (.ineg, 1)) (hp : pc + 1 = pc') (k : G l b cy D R y cc ret nL mc ms Z pc' lv (.int (-x) :: st) kc ks sh n σ) : G l b cy D R y cc ret nL mc ms Z pc lv (.int x :: st) kc ks sh n σ := by
  subst hp
  intro p e s m args below meth c H locs ls hx hb hr hml hown hts hlk hmn hK hbs hW hS hl
  exact lv_ineg hx hb hd (k hx hb hr hml hown hts hlk hmn hK hbs hW hS hl)
theorem g_lshr {x : Int64} {w : Int32} (hd : decode cc pc = .ok (.lshr, 1)) (hp : pc + 1 = pc') (k : G l b cy D R y cc ret nL mc ms Z pc' lv (.long (x >>> (w.toInt64 &&& 63)) :: st) kc ks sh n σ) : G l b cy D R y cc ret nL mc ms Z pc lv (.int w :: .long x :: st) kc ks sh n σ := by
  subst hp
  intro p e s m args below meth c H locs ls hx hb hr hml hown hts hlk hmn hK hbs hW hS hl
  exact lv_lshr hx hb hd rfl (k hx hb hr hml hown hts hlk hmn hK hbs hW hS hl)
theorem g_lushr {x : Int64} {w : Int32} (hd : decode cc pc = .ok (.lushr, 1)) (hp : pc + 1 = pc') (k : G l b cy D R y cc ret nL mc ms Z pc' lv (.long (x.toUInt64 >>> (w.toInt64.toUInt64 &&& Int64.toUInt64 63)).toInt64 :: st) kc ks sh n σ) : G l b cy D R y cc ret nL mc ms Z pc lv (.int w :: .long x :: st) kc ks sh n σ := by
  subst hp
  intro p e s m args below meth c H locs ls hx hb hr hml hown hts hlk hmn hK hbs hW hS hl
  exact lv_lushr hx hb hd rfl (k hx hb hr hml hown hts hlk hmn hK hbs hW hS hl)
theorem g_i2l {x : Int32} (hd : decode cc pc = .ok (.i2l, 1)) (hp : pc + 1 = pc') (k : G l b cy D R y cc ret nL mc ms Z pc' lv (.long x.toInt64 :: st) kc ks sh n σ) : G l b cy D R y cc ret nL mc ms Z pc lv (.int x :: st) kc ks sh n σ := by
  subst hp
  intro p e s m args below meth c H locs ls hx hb hr hml hown hts hlk hmn hK hbs hW hS hl
  exact lv_i2l hx hb hd rfl (k hx hb hr hml hown hts hlk hmn hK hbs hW hS hl)
theorem g_l2i {x : Int64} (hd : decode cc pc = .ok (.l2i, 1)) (hp : pc + 1 = pc') (k : G l b cy D R y cc ret nL mc ms Z pc' lv (.int x.toInt32 :: st) kc ks sh n σ) : G l b cy D R y cc ret nL mc ms Z pc lv (.long x :: st) kc ks sh n σ := by
  subst hp
  intro p e s m args below meth c H locs ls hx hb hr hml hown hts hlk hmn hK hbs hW hS hl
  exact lv_l2i hx hb hd rfl (k hx hb hr hml hown hts hlk hmn hK hbs hW hS hl)
theorem g_i2c {x : Int32} (hd : decode cc pc = .ok (.i2c, 1)) (hp : pc + 1 = pc') (k : G l b cy D R y cc ret nL mc ms Z pc' lv (.int (x.toUInt32 % 65536).toInt32 :: st) kc ks sh n σ) : G l b cy D R y cc ret nL mc ms Z pc lv (.int x :: st) kc ks sh n σ := by
  subst hp
  intro p e s m args below meth c H locs ls hx hb hr hml hown hts hlk hmn hK hbs hW hS hl
  exact lv_i2c hx hb hd rfl (k hx hb hr hml hown hts hlk hmn hK hbs hW hS hl)
theorem g_dup {v : Value} (hd : decode cc pc = .ok (.dup, 1)) (hp : pc + 1 = pc') (hv : v.category = 1) (k : G l b cy D R y cc ret nL mc ms Z pc' lv (v :: v :: st) kc ks sh n σ) : G l b cy D R y cc ret nL mc ms Z pc lv (v :: st) kc ks sh n σ := by
  subst hp
  intro p e s m args below meth c H locs ls hx hb hr hml hown hts hlk hmn hK hbs hW hS hl
  exact lv_dup hx hb hd hv (k hx hb hr hml hown hts hlk hmn hK hbs hW hS hl)
theorem g_pop {v : Value} (hd : decode cc pc = .ok (.pop, 1)) (hp : pc + 1 = pc') (hv : v.category = 1) (k : G l b cy D R y cc ret nL mc ms Z pc' lv (st) kc ks sh n σ) : G l b cy D R y cc ret nL mc ms Z pc lv (v :: st) kc ks sh n σ := by
  subst hp
  intro p e s m args below meth c H locs ls hx hb hr hml hown hts hlk hmn hK hbs hW hS hl
  exact lv_pop hx hb hd hv (k hx hb hr hml hown hts hlk hmn hK hbs hW hS hl)
theorem g_pop2 {v : Value} (hd : decode cc pc = .ok (.pop2, 1)) (hp : pc + 1 = pc') (hv : v.category = 2) (k : G l b cy D R y cc ret nL mc ms Z pc' lv (st) kc ks sh n σ) : G l b cy D R y cc ret nL mc ms Z pc lv (v :: st) kc ks sh n σ := by
  subst hp
  intro p e s m args below meth c H locs ls hx hb hr hml hown hts hlk hmn hK hbs hW hS hl
  exact lv_pop2_2 hx hb hd hv (k hx hb hr hml hown hts hlk hmn hK hbs hW hS hl)
theorem g_dup2 {v w : Value} (hd : decode cc pc = .ok (.dup2, 1)) (hp : pc + 1 = pc') (hv : v.category = 1) (hw : w.category = 1) (k : G l b cy D R y cc ret nL mc ms Z pc' lv (v :: w :: v :: w :: st) kc ks sh n σ) : G l b cy D R y cc ret nL mc ms Z pc lv (v :: w :: st) kc ks sh n σ := by
  subst hp
  intro p e s m args below meth c H locs ls hx hb hr hml hown hts hlk hmn hK hbs hW hS hl
  exact lv_dup2_11 hx hb hd hv hw (k hx hb hr hml hown hts hlk hmn hK hbs hW hS hl)
theorem g_dup2l {v : Value} (hd : decode cc pc = .ok (.dup2, 1)) (hp : pc + 1 = pc') (hv : v.category = 2) (k : G l b cy D R y cc ret nL mc ms Z pc' lv (v :: v :: st) kc ks sh n σ) : G l b cy D R y cc ret nL mc ms Z pc lv (v :: st) kc ks sh n σ := by
  subst hp
  intro p e s m args below meth c H locs ls hx hb hr hml hown hts hlk hmn hK hbs hW hS hl
  exact lv_dup2_2 hx hb hd hv (k hx hb hr hml hown hts hlk hmn hK hbs hW hS hl)
theorem g_ldc {z : Nat} {v : Int32} (hd : decode cc pc = .ok (.ldc z, 2)) (hp : pc + 2 = pc') (hv : Cond.constant y.cls z v ∈ gt) (k : G l b cy D R y cc ret nL mc ms Z pc' lv (.int v :: st) kc ks sh n σ) : G l b cy D R y cc ret nL mc ms Z pc lv st kc ks sh n σ := by
  subst hp
  intro p e s m args below meth c H locs ls hx hb hr hml hown hts hlk hmn hK hbs hW hS hl
  exact lv_ldc hx hb hown (hts _ hv) hd (k hx hb hr hml hown hts hlk hmn hK hbs hW hS hl)
theorem g_ldcw {z : Nat} {v : Int32} (hd : decode cc pc = .ok (.ldc_w z, 3)) (hp : pc + 3 = pc') (hv : Cond.constant y.cls z v ∈ gt) (k : G l b cy D R y cc ret nL mc ms Z pc' lv (.int v :: st) kc ks sh n σ) : G l b cy D R y cc ret nL mc ms Z pc lv st kc ks sh n σ := by
  subst hp
  intro p e s m args below meth c H locs ls hx hb hr hml hown hts hlk hmn hK hbs hW hS hl
  exact lv_ldcw hx hb hown (hts _ hv) hd (k hx hb hr hml hown hts hlk hmn hK hbs hW hS hl)
theorem g_ldc2 {z : Nat} {v : Int64} (hd : decode cc pc = .ok (.ldc2_w z, 3)) (hp : pc + 3 = pc') (hv : Cond.constantLong y.cls z v ∈ gt) (k : G l b cy D R y cc ret nL mc ms Z pc' lv (.long v :: st) kc ks sh n σ) : G l b cy D R y cc ret nL mc ms Z pc lv st kc ks sh n σ := by
  subst hp
  intro p e s m args below meth c H locs ls hx hb hr hml hown hts hlk hmn hK hbs hW hS hl
  exact lv_ldc2 hx hb hown (hts _ hv) hd (k hx hb hr hml hown hts hlk hmn hK hbs hW hS hl)
theorem g_topi {x : Int32} (k : ∀ v : Int32, v = x → G l b cy D R y cc ret nL mc ms Z pc lv (.int v :: st) kc ks sh n σ) : G l b cy D R y cc ret nL mc ms Z pc lv (.int x :: st) kc ks sh n σ := k x rfl
theorem g_topl {x : Int64} (k : ∀ v : Int64, v = x → G l b cy D R y cc ret nL mc ms Z pc lv (.long v :: st) kc ks sh n σ) : G l b cy D R y cc ret nL mc ms Z pc lv (.long x :: st) kc ks sh n σ := k x rfl
theorem g_if_eq {x : Int32} (hd : decode cc pc = .ok (.ifCond .eq off, 3)) (hp : pc + 3 = pc') (ht : (pc : Int) + off = (tgt : Int)) (kt : x = 0 → G l b cy D R y cc ret nL mc ms Z tgt lv st kc ks sh n σ) (kf : ¬ x = 0 → G l b cy D R y cc ret nL mc ms Z pc' lv st kc ks sh n σ) : G l b cy D R y cc ret nL mc ms Z pc lv (.int x :: st) kc ks sh n σ := by
  subst hp
  intro p e s m args below meth c H locs ls hx hb hr hml hown hts hlk hmn hK hbs hW hS hl
  exact lv_if_eq hx hb hd ht (fun q => kt q hx hb hr hml hown hts hlk hmn hK hbs hW hS hl) (fun q => kf q hx hb hr hml hown hts hlk hmn hK hbs hW hS hl)
theorem g_icmp_eq {x w : Int32} (hd : decode cc pc = .ok (.if_icmp .eq off, 3)) (hp : pc + 3 = pc') (ht : (pc : Int) + off = (tgt : Int)) (kt : x = w → G l b cy D R y cc ret nL mc ms Z tgt lv st kc ks sh n σ) (kf : ¬ x = w → G l b cy D R y cc ret nL mc ms Z pc' lv st kc ks sh n σ) : G l b cy D R y cc ret nL mc ms Z pc lv (.int w :: .int x :: st) kc ks sh n σ := by
  subst hp
  intro p e s m args below meth c H locs ls hx hb hr hml hown hts hlk hmn hK hbs hW hS hl
  exact lv_icmp_eq hx hb hd ht (fun q => kt q hx hb hr hml hown hts hlk hmn hK hbs hW hS hl) (fun q => kf q hx hb hr hml hown hts hlk hmn hK hbs hW hS hl)
theorem g_if_ne {x : Int32} (hd : decode cc pc = .ok (.ifCond .ne off, 3)) (hp : pc + 3 = pc') (ht : (pc : Int) + off = (tgt : Int)) (kt : ¬ x = 0 → G l b cy D R y cc ret nL mc ms Z tgt lv st kc ks sh n σ) (kf : x = 0 → G l b cy D R y cc ret nL mc ms Z pc' lv st kc ks sh n σ) : G l b cy D R y cc ret nL mc ms Z pc lv (.int x :: st) kc ks sh n σ := by
  subst hp
  intro p e s m args below meth c H locs ls hx hb hr hml hown hts hlk hmn hK hbs hW hS hl
  exact lv_if_ne hx hb hd ht (fun q => kt q hx hb hr hml hown hts hlk hmn hK hbs hW hS hl) (fun q => kf q hx hb hr hml hown hts hlk hmn hK hbs hW hS hl)
theorem g_icmp_ne {x w : Int32} (hd : decode cc pc = .ok (.if_icmp .ne off, 3)) (hp : pc + 3 = pc') (ht : (pc : Int) + off = (tgt : Int)) (kt : ¬ x = w → G l b cy D R y cc ret nL mc ms Z tgt lv st kc ks sh n σ) (kf : x = w → G l b cy D R y cc ret nL mc ms Z pc' lv st kc ks sh n σ) : G l b cy D R y cc ret nL mc ms Z pc lv (.int w :: .int x :: st) kc ks sh n σ := by
  subst hp
  intro p e s m args below meth c H locs ls hx hb hr hml hown hts hlk hmn hK hbs hW hS hl
  exact lv_icmp_ne hx hb hd ht (fun q => kt q hx hb hr hml hown hts hlk hmn hK hbs hW hS hl) (fun q => kf q hx hb hr hml hown hts hlk hmn hK hbs hW hS hl)
theorem g_if_lt {x : Int32} (hd : decode cc pc = .ok (.ifCond .lt off, 3)) (hp : pc + 3 = pc') (ht : (pc : Int) + off = (tgt : Int)) (kt : x < 0 → G l b cy D R y cc ret nL mc ms Z tgt lv st kc ks sh n σ) (kf : ¬ x < 0 → G l b cy D R y cc ret nL mc ms Z pc' lv st kc ks sh n σ) : G l b cy D R y cc ret nL mc ms Z pc lv (.int x :: st) kc ks sh n σ := by
  subst hp
  intro p e s m args below meth c H locs ls hx hb hr hml hown hts hlk hmn hK hbs hW hS hl
  exact lv_if_lt hx hb hd ht (fun q => kt q hx hb hr hml hown hts hlk hmn hK hbs hW hS hl) (fun q => kf q hx hb hr hml hown hts hlk hmn hK hbs hW hS hl)
theorem g_icmp_lt {x w : Int32} (hd : decode cc pc = .ok (.if_icmp .lt off, 3)) (hp : pc + 3 = pc') (ht : (pc : Int) + off = (tgt : Int)) (kt : x < w → G l b cy D R y cc ret nL mc ms Z tgt lv st kc ks sh n σ) (kf : ¬ x < w → G l b cy D R y cc ret nL mc ms Z pc' lv st kc ks sh n σ) : G l b cy D R y cc ret nL mc ms Z pc lv (.int w :: .int x :: st) kc ks sh n σ := by
  subst hp
  intro p e s m args below meth c H locs ls hx hb hr hml hown hts hlk hmn hK hbs hW hS hl
  exact lv_icmp_lt hx hb hd ht (fun q => kt q hx hb hr hml hown hts hlk hmn hK hbs hW hS hl) (fun q => kf q hx hb hr hml hown hts hlk hmn hK hbs hW hS hl)
theorem g_if_ge {x : Int32} (hd : decode cc pc = .ok (.ifCond .ge off, 3)) (hp : pc + 3 = pc') (ht : (pc : Int) + off = (tgt : Int)) (kt : 0 ≤ x → G l b cy D R y cc ret nL mc ms Z tgt lv st kc ks sh n σ) (kf : ¬ 0 ≤ x → G l b cy D R y cc ret nL mc ms Z pc' lv st kc ks sh n σ) : G l b cy D R y cc ret nL mc ms Z pc lv (.int x :: st) kc ks sh n σ := by
  subst hp
  intro p e s m args below meth c H locs ls hx hb hr hml hown hts hlk hmn hK hbs hW hS hl
  exact lv_if_ge hx hb hd ht (fun q => kt q hx hb hr hml hown hts hlk hmn hK hbs hW hS hl) (fun q => kf q hx hb hr hml hown hts hlk hmn hK hbs hW hS hl)
theorem g_icmp_ge {x w : Int32} (hd : decode cc pc = .ok (.if_icmp .ge off, 3)) (hp : pc + 3 = pc') (ht : (pc : Int) + off = (tgt : Int)) (kt : w ≤ x → G l b cy D R y cc ret nL mc ms Z tgt lv st kc ks sh n σ) (kf : ¬ w ≤ x → G l b cy D R y cc ret nL mc ms Z pc' lv st kc ks sh n σ) : G l b cy D R y cc ret nL mc ms Z pc lv (.int w :: .int x :: st) kc ks sh n σ := by
  subst hp
  intro p e s m args below meth c H locs ls hx hb hr hml hown hts hlk hmn hK hbs hW hS hl
  exact lv_icmp_ge hx hb hd ht (fun q => kt q hx hb hr hml hown hts hlk hmn hK hbs hW hS hl) (fun q => kf q hx hb hr hml hown hts hlk hmn hK hbs hW hS hl)
theorem g_if_gt {x : Int32} (hd : decode cc pc = .ok (.ifCond .gt off, 3)) (hp : pc + 3 = pc') (ht : (pc : Int) + off = (tgt : Int)) (kt : 0 < x → G l b cy D R y cc ret nL mc ms Z tgt lv st kc ks sh n σ) (kf : ¬ 0 < x → G l b cy D R y cc ret nL mc ms Z pc' lv st kc ks sh n σ) : G l b cy D R y cc ret nL mc ms Z pc lv (.int x :: st) kc ks sh n σ := by
  subst hp
  intro p e s m args below meth c H locs ls hx hb hr hml hown hts hlk hmn hK hbs hW hS hl
  exact lv_if_gt hx hb hd ht (fun q => kt q hx hb hr hml hown hts hlk hmn hK hbs hW hS hl) (fun q => kf q hx hb hr hml hown hts hlk hmn hK hbs hW hS hl)
theorem g_icmp_gt {x w : Int32} (hd : decode cc pc = .ok (.if_icmp .gt off, 3)) (hp : pc + 3 = pc') (ht : (pc : Int) + off = (tgt : Int)) (kt : w < x → G l b cy D R y cc ret nL mc ms Z tgt lv st kc ks sh n σ) (kf : ¬ w < x → G l b cy D R y cc ret nL mc ms Z pc' lv st kc ks sh n σ) : G l b cy D R y cc ret nL mc ms Z pc lv (.int w :: .int x :: st) kc ks sh n σ := by
  subst hp
  intro p e s m args below meth c H locs ls hx hb hr hml hown hts hlk hmn hK hbs hW hS hl
  exact lv_icmp_gt hx hb hd ht (fun q => kt q hx hb hr hml hown hts hlk hmn hK hbs hW hS hl) (fun q => kf q hx hb hr hml hown hts hlk hmn hK hbs hW hS hl)
theorem g_if_le {x : Int32} (hd : decode cc pc = .ok (.ifCond .le off, 3)) (hp : pc + 3 = pc') (ht : (pc : Int) + off = (tgt : Int)) (kt : x ≤ 0 → G l b cy D R y cc ret nL mc ms Z tgt lv st kc ks sh n σ) (kf : ¬ x ≤ 0 → G l b cy D R y cc ret nL mc ms Z pc' lv st kc ks sh n σ) : G l b cy D R y cc ret nL mc ms Z pc lv (.int x :: st) kc ks sh n σ := by
  subst hp
  intro p e s m args below meth c H locs ls hx hb hr hml hown hts hlk hmn hK hbs hW hS hl
  exact lv_if_le hx hb hd ht (fun q => kt q hx hb hr hml hown hts hlk hmn hK hbs hW hS hl) (fun q => kf q hx hb hr hml hown hts hlk hmn hK hbs hW hS hl)
theorem g_icmp_le {x w : Int32} (hd : decode cc pc = .ok (.if_icmp .le off, 3)) (hp : pc + 3 = pc') (ht : (pc : Int) + off = (tgt : Int)) (kt : x ≤ w → G l b cy D R y cc ret nL mc ms Z tgt lv st kc ks sh n σ) (kf : ¬ x ≤ w → G l b cy D R y cc ret nL mc ms Z pc' lv st kc ks sh n σ) : G l b cy D R y cc ret nL mc ms Z pc lv (.int w :: .int x :: st) kc ks sh n σ := by
  subst hp
  intro p e s m args below meth c H locs ls hx hb hr hml hown hts hlk hmn hK hbs hW hS hl
  exact lv_icmp_le hx hb hd ht (fun q => kt q hx hb hr hml hown hts hlk hmn hK hbs hW hS hl) (fun q => kf q hx hb hr hml hown hts hlk hmn hK hbs hW hS hl)
theorem g_goto (hd : decode cc pc = .ok (.goto off, 3)) (ht : (pc : Int) + off = (tgt : Int)) (k : G l b cy D R y cc ret nL mc ms Z tgt lv st kc ks sh n σ) : G l b cy D R y cc ret nL mc ms Z pc lv st kc ks sh n σ := by
  intro p e s m args below meth c H locs ls hx hb hr hml hown hts hlk hmn hK hbs hW hS hl
  exact lv_goto hx hb hd ht (k hx hb hr hml hown hts hlk hmn hK hbs hW hS hl)
theorem cmp_eq {x w : Int64} : lg_cmp x w = 0 ↔ x = w := by
  unfold lg_cmp
  by_cases h1 : w < x
  · rw [if_pos h1]
    exact ⟨fun h => absurd h (by decide), fun h => absurd h1 (by rw [h]; exact Int64.lt_irrefl)⟩
  · rw [if_neg h1]
    by_cases h2 : x = w
    · rw [if_pos h2]; exact ⟨fun _ => h2, fun _ => rfl⟩
    · rw [if_neg h2]; exact ⟨fun h => absurd h (by decide), fun h => absurd h h2⟩
theorem cmp_lt {x w : Int64} : lg_cmp x w < 0 ↔ x < w := by
  unfold lg_cmp
  by_cases h1 : w < x
  · rw [if_pos h1]
    exact ⟨fun h => absurd h (by decide), fun h => by rw [Int64.lt_iff_toInt_lt] at h h1; omega⟩
  · rw [if_neg h1]
    by_cases h2 : x = w
    · rw [if_pos h2]; exact ⟨fun h => absurd h (by decide), fun h => by rw [h2] at h; exact absurd h Int64.lt_irrefl⟩
    · rw [if_neg h2]; refine ⟨fun _ => ?_, fun _ => by decide⟩
      have h3 : x.toInt ≠ w.toInt := fun q => h2 (Int64.toInt_inj.mp q)
      rw [Int64.lt_iff_toInt_lt] at h1 ⊢; omega
theorem cmp_gt {x w : Int64} : 0 < lg_cmp x w ↔ w < x := by
  unfold lg_cmp
  by_cases h1 : w < x
  · rw [if_pos h1]; exact ⟨fun _ => h1, fun _ => by decide⟩
  · rw [if_neg h1]
    by_cases h2 : x = w
    · rw [if_pos h2]; exact ⟨fun h => absurd h (by decide), fun h => absurd h h1⟩
    · rw [if_neg h2]; exact ⟨fun h => absurd h (by decide), fun h => absurd h h1⟩
theorem g_lif_eq {x w : Int64} (hd : decode cc pc = .ok (.lcmp, 1)) (hd2 : decode cc (pc + 1) = .ok (.ifCond .eq off, 3)) (hp : pc + 1 + 3 = pc') (ht : ((pc + 1 : Nat) : Int) + off = (tgt : Int)) (kt : x = w → G l b cy D R y cc ret nL mc ms Z tgt lv st kc ks sh n σ) (kf : ¬ x = w → G l b cy D R y cc ret nL mc ms Z pc' lv st kc ks sh n σ) : G l b cy D R y cc ret nL mc ms Z pc lv (.long w :: .long x :: st) kc ks sh n σ := by
  subst hp
  intro p e s m args below meth c H locs ls hx hb hr hml hown hts hlk hmn hK hbs hW hS hl
  refine W.lcmp hx hb hd ?_
  exact lv_if_eq hx hb hd2 ht (fun q => kt (cmp_eq.mp q) hx hb hr hml hown hts hlk hmn hK hbs hW hS hl) (fun q => kf (fun z => q (cmp_eq.mpr z)) hx hb hr hml hown hts hlk hmn hK hbs hW hS hl)
theorem g_lif_ne {x w : Int64} (hd : decode cc pc = .ok (.lcmp, 1)) (hd2 : decode cc (pc + 1) = .ok (.ifCond .ne off, 3)) (hp : pc + 1 + 3 = pc') (ht : ((pc + 1 : Nat) : Int) + off = (tgt : Int)) (kt : ¬ x = w → G l b cy D R y cc ret nL mc ms Z tgt lv st kc ks sh n σ) (kf : x = w → G l b cy D R y cc ret nL mc ms Z pc' lv st kc ks sh n σ) : G l b cy D R y cc ret nL mc ms Z pc lv (.long w :: .long x :: st) kc ks sh n σ := by
  subst hp
  intro p e s m args below meth c H locs ls hx hb hr hml hown hts hlk hmn hK hbs hW hS hl
  refine W.lcmp hx hb hd ?_
  exact lv_if_ne hx hb hd2 ht (fun q => kt (fun z => q (cmp_eq.mpr z)) hx hb hr hml hown hts hlk hmn hK hbs hW hS hl) (fun q => kf (cmp_eq.mp q) hx hb hr hml hown hts hlk hmn hK hbs hW hS hl)
theorem g_lif_lt {x w : Int64} (hd : decode cc pc = .ok (.lcmp, 1)) (hd2 : decode cc (pc + 1) = .ok (.ifCond .lt off, 3)) (hp : pc + 1 + 3 = pc') (ht : ((pc + 1 : Nat) : Int) + off = (tgt : Int)) (kt : x < w → G l b cy D R y cc ret nL mc ms Z tgt lv st kc ks sh n σ) (kf : ¬ x < w → G l b cy D R y cc ret nL mc ms Z pc' lv st kc ks sh n σ) : G l b cy D R y cc ret nL mc ms Z pc lv (.long w :: .long x :: st) kc ks sh n σ := by
  subst hp
  intro p e s m args below meth c H locs ls hx hb hr hml hown hts hlk hmn hK hbs hW hS hl
  refine W.lcmp hx hb hd ?_
  exact lv_if_lt hx hb hd2 ht (fun q => kt (cmp_lt.mp q) hx hb hr hml hown hts hlk hmn hK hbs hW hS hl) (fun q => kf (fun z => q (cmp_lt.mpr z)) hx hb hr hml hown hts hlk hmn hK hbs hW hS hl)
theorem g_lif_ge {x w : Int64} (hd : decode cc pc = .ok (.lcmp, 1)) (hd2 : decode cc (pc + 1) = .ok (.ifCond .ge off, 3)) (hp : pc + 1 + 3 = pc') (ht : ((pc + 1 : Nat) : Int) + off = (tgt : Int)) (kt : ¬ x < w → G l b cy D R y cc ret nL mc ms Z tgt lv st kc ks sh n σ) (kf : x < w → G l b cy D R y cc ret nL mc ms Z pc' lv st kc ks sh n σ) : G l b cy D R y cc ret nL mc ms Z pc lv (.long w :: .long x :: st) kc ks sh n σ := by
  subst hp
  intro p e s m args below meth c H locs ls hx hb hr hml hown hts hlk hmn hK hbs hW hS hl
  refine W.lcmp hx hb hd ?_
  exact lv_if_ge hx hb hd2 ht (fun q => kt (fun z => absurd (cmp_lt.mpr z) (Int32.not_lt.mpr q)) hx hb hr hml hown hts hlk hmn hK hbs hW hS hl) (fun q => kf (cmp_lt.mp (Int32.not_le.mp q)) hx hb hr hml hown hts hlk hmn hK hbs hW hS hl)
theorem g_lif_gt {x w : Int64} (hd : decode cc pc = .ok (.lcmp, 1)) (hd2 : decode cc (pc + 1) = .ok (.ifCond .gt off, 3)) (hp : pc + 1 + 3 = pc') (ht : ((pc + 1 : Nat) : Int) + off = (tgt : Int)) (kt : w < x → G l b cy D R y cc ret nL mc ms Z tgt lv st kc ks sh n σ) (kf : ¬ w < x → G l b cy D R y cc ret nL mc ms Z pc' lv st kc ks sh n σ) : G l b cy D R y cc ret nL mc ms Z pc lv (.long w :: .long x :: st) kc ks sh n σ := by
  subst hp
  intro p e s m args below meth c H locs ls hx hb hr hml hown hts hlk hmn hK hbs hW hS hl
  refine W.lcmp hx hb hd ?_
  exact lv_if_gt hx hb hd2 ht (fun q => kt (cmp_gt.mp q) hx hb hr hml hown hts hlk hmn hK hbs hW hS hl) (fun q => kf (fun z => q (cmp_gt.mpr z)) hx hb hr hml hown hts hlk hmn hK hbs hW hS hl)
theorem g_lif_le {x w : Int64} (hd : decode cc pc = .ok (.lcmp, 1)) (hd2 : decode cc (pc + 1) = .ok (.ifCond .le off, 3)) (hp : pc + 1 + 3 = pc') (ht : ((pc + 1 : Nat) : Int) + off = (tgt : Int)) (kt : ¬ w < x → G l b cy D R y cc ret nL mc ms Z tgt lv st kc ks sh n σ) (kf : w < x → G l b cy D R y cc ret nL mc ms Z pc' lv st kc ks sh n σ) : G l b cy D R y cc ret nL mc ms Z pc lv (.long w :: .long x :: st) kc ks sh n σ := by
  subst hp
  intro p e s m args below meth c H locs ls hx hb hr hml hown hts hlk hmn hK hbs hW hS hl
  refine W.lcmp hx hb hd ?_
  exact lv_if_le hx hb hd2 ht (fun q => kt (fun z => absurd (cmp_gt.mpr z) (Int32.not_lt.mpr q)) hx hb hr hml hown hts hlk hmn hK hbs hW hS hl) (fun q => kf (cmp_gt.mp (Int32.not_le.mp q)) hx hb hr hml hown hts hlk hmn hK hbs hW hS hl)
theorem g_tabIn {dflt lo hi : Int} {offs : Array Int} {len : Nat} {x : Int32} (v : Int32) (hd : decode cc pc = .ok (.tableswitch dflt lo hi offs, len)) (hv : x = v) (h1 : ¬ v.toInt < lo) (h2 : ¬ hi < v.toInt) (ho : offs[(v.toInt - lo).toNat]? = some off) (ht : (pc : Int) + off = (tgt : Int)) (k : G l b cy D R y cc ret nL mc ms Z tgt lv st kc ks sh n σ) : G l b cy D R y cc ret nL mc ms Z pc lv (.int x :: st) kc ks sh n σ := by
  subst hv
  intro p e s m args below meth c H locs ls hx hb hr hml hown hts hlk hmn hK hbs hW hS hl
  exact lv_tableIn hx hb hd h1 h2 ho ht (k hx hb hr hml hown hts hlk hmn hK hbs hW hS hl)
theorem g_tabOut {dflt lo hi : Int} {offs : Array Int} {len : Nat} {x : Int32} (hd : decode cc pc = .ok (.tableswitch dflt lo hi offs, len)) (h : x.toInt < lo ∨ hi < x.toInt) (ht : (pc : Int) + dflt = (tgt : Int)) (k : G l b cy D R y cc ret nL mc ms Z tgt lv st kc ks sh n σ) : G l b cy D R y cc ret nL mc ms Z pc lv (.int x :: st) kc ks sh n σ := by
  intro p e s m args below meth c H locs ls hx hb hr hml hown hts hlk hmn hK hbs hW hS hl
  exact lv_tableOut hx hb hd h ht (k hx hb hr hml hown hts hlk hmn hK hbs hW hS hl)
theorem g_look {dflt : Int} {ps : Array (Int × Int)} {len : Nat} {x : Int32} (hd : decode cc pc = .ok (.lookupswitch dflt ps, len)) (hq : (ps.toList.zip (ps.toList.drop 1)).all (fun (a, next) => a.1 < next.1) = true) (ho : Op.lookupswitch.offset ps.toList dflt x.toInt = off) (ht : (pc : Int) + off = (tgt : Int)) (k : G l b cy D R y cc ret nL mc ms Z tgt lv st kc ks sh n σ) : G l b cy D R y cc ret nL mc ms Z pc lv (.int x :: st) kc ks sh n σ := by
  intro p e s m args below meth c H locs ls hx hb hr hml hown hts hlk hmn hK hbs hW hS hl
  exact lv_lookup hx hb hd hq ho ht (k hx hb hr hml hown hts hlk hmn hK hbs hW hS hl)
theorem g_iret {v : Int32} (hd : decode cc pc = .ok (.ireturn, 1)) (hr' : ret = some .int) (hc : kc = mc ∧ ks = ms) (hz : Z = (some (.int v), sh, n, σ)) : G l b cy D R y cc ret nL mc ms Z pc lv [.int v] kc ks sh n σ := by
  obtain ⟨rfl, rfl⟩ := hc
  subst hz
  intro p e s m args below meth c H locs ls hx hb hr hml hown hts hlk hmn hK hbs hW hS hl
  exact W.iret hx hb (hr.trans hr') (fun t ht hw => ⟨rfl, by rw [ht]; exact hW, hS.F ht⟩) hS.2.2 hd hlk
theorem g_zret {v : Int32} (hd : decode cc pc = .ok (.ireturn, 1)) (hr' : ret = some .boolean) (hv : v = 0 ∨ v = 1) (hc : kc = mc ∧ ks = ms) (hz : Z = (some (.int v), sh, n, σ)) : G l b cy D R y cc ret nL mc ms Z pc lv [.int v] kc ks sh n σ := by
  obtain ⟨rfl, rfl⟩ := hc
  subst hz
  intro p e s m args below meth c H locs ls hx hb hr hml hown hts hlk hmn hK hbs hW hS hl
  exact W.zret hx hb (hr.trans hr') (by rcases hv with rfl | rfl <;> rfl) (fun t ht hw => ⟨rfl, by rw [ht]; exact hW, hS.F ht⟩) hS.2.2 hd hlk
theorem g_lret {v : Int64} (hd : decode cc pc = .ok (.lreturn, 1)) (hr' : ret = some .long) (hc : kc = mc ∧ ks = ms) (hz : Z = (some (.long v), sh, n, σ)) : G l b cy D R y cc ret nL mc ms Z pc lv [.long v] kc ks sh n σ := by
  obtain ⟨rfl, rfl⟩ := hc
  subst hz
  intro p e s m args below meth c H locs ls hx hb hr hml hown hts hlk hmn hK hbs hW hS hl
  exact W.lret hx hb (hr.trans hr') (fun t ht hw => ⟨rfl, by rw [ht]; exact hW, hS.F ht⟩) hS.2.2 hd hlk
theorem g_vret (hd : decode cc pc = .ok (.return_, 1)) (hr' : ret = none) (hc : kc = mc ∧ ks = ms) (hz : Z = (none, sh, n, σ)) : G l b cy D R y cc ret nL mc ms Z pc lv [] kc ks sh n σ := by
  obtain ⟨rfl, rfl⟩ := hc
  subst hz
  intro p e s m args below meth c H locs ls hx hb hr hml hown hts hlk hmn hK hbs hW hS hl
  exact W.vret hx hb (hr.trans hr') (fun t ht hw => ⟨rfl, by rw [ht]; exact hW, hS.F ht⟩) hS.2.2 hd hlk
theorem g_aret {a : Nat} {C : String} (hd : decode cc pc = .ok (.areturn, 1)) (hr' : ret = some (.object C)) (hc : kc = mc ∧ ks = ms) (hz : Z = (some (.ref a), sh, n, σ)) : G l b cy D R y cc ret nL mc ms Z pc lv [.ref a] kc ks sh n σ := by
  obtain ⟨rfl, rfl⟩ := hc
  subst hz
  intro p e s m args below meth c H locs ls hx hb hr hml hown hts hlk hmn hK hbs hW hS hl
  exact W.aret hx hb (hr.trans hr') (Or.inl ⟨_, rfl⟩) (Or.inr ⟨_, rfl⟩) (fun t ht hw => ⟨rfl, by rw [ht]; exact hW, hS.F ht⟩) hS.2.2 hd hlk
/-- the pool's entry idx of a file names slot j of the kind ci -/
def FLk (own : String) (idx ci j : Nat) : Prop := ∃ (C : String) (T : u_T) (N : Nat), vwCl[ci]? = some (C, T, N) ∧ j < N ∧ (T j).1 = C ∧ (Cond.fieldLink own idx C (T j).2.1 (T j).2.2.1 ∈ gt ∨ ∃ host : String, Cond.fieldLinkNest own idx C (T j).2.1 (T j).2.2.1 host ∈ nestW)
def PLk (own : String) (idx ci j : Nat) (ty : FieldType) (fin : Bool) : Prop := ∃ (C : String) (T : u_T) (N : Nat), vwCl[ci]? = some (C, T, N) ∧ j < N ∧ (T j).1 = C ∧ (T j).2.2.2 = fin ∧ tyOf ci j = ty ∧ (Cond.fieldLink own idx C (T j).2.1 (T j).2.2.1 ∈ gt ∨ ∃ host : String, Cond.fieldLinkNest own idx C (T j).2.1 (T j).2.2.1 host ∈ nestW)
theorem PLk.lf {own : String} {idx ci j : Nat} {ty : FieldType} {fin : Bool} (h : PLk own idx ci j ty fin) : FLk own idx ci j := by
  obtain ⟨C, T, N, h1, h2, h3, -, -, h4⟩ := h
  exact ⟨C, T, N, h1, h2, h3, h4⟩
theorem g_get {k ci j cd idx : Nat} {q : List Nat} (hd : decode cc pc = .ok (.getfield idx, 3)) (hp : pc + 3 = pc') (hf : FLk y.cls idx ci j) (hk : isO sh n k ci q) (hc : q[j]? = some cd) (g : G l b cy D R y cc ret nL mc ms Z pc' lv (cv b σ k j cd :: st) kc ks sh n σ) : G l b cy D R y cc ret nL mc ms Z pc lv (.ref (b + k) :: st) kc ks sh n σ := by
  subst hp
  intro p e s m args below meth c H locs ls hx hb hr hml hown hts hlk hmn hK hbs hW hS hl
  obtain ⟨C, T, N, h1, h2, h3, h4⟩ := hf
  have hin : ∀ w ∈ u_ws C T N, w ∈ gt := cl_in (C, T, N) (List.mem_of_getElem? h1)
  rcases h4 with h4 | ⟨host, h4⟩
  · exact va_get (D := D) (ci := ci) (C := C) (T := T) (N := N) hx hb hts hin hown hK.1 hW.2 k (wl_o σ hk) h1 j h2 (hts _ h4) (fun _ h9 => by rw [h3] at h9; exact h9) (mi_get hc) hd (g hx hb hr hml hown hts hlk hmn hK hbs hW hS hl)
  · exact va_getN (D := D) (ci := ci) (C := C) (T := T) (N := N) hx hb hts hin hown hK.1 hW.2 k (wl_o σ hk) h1 j h2 (va_Nw.use rfl (hK.2.1 _ h4)) (fun _ h9 => by rw [h3] at h9; exact h9) (mi_get hc) hd (g hx hb hr hml hown hts hlk hmn hK hbs hW hS hl)
theorem g_getI {k ci j idx : Nat} {q : List Nat} (hd : decode cc pc = .ok (.getfield idx, 3)) (hp : pc + 3 = pc') (hf : FLk y.cls idx ci j) (hk : isO sh n k ci q) (hc : q[j]? = some 0) (g : G l b cy D R y cc ret nL mc ms Z pc' lv (.int (σ.1 k j) :: st) kc ks sh n σ) : G l b cy D R y cc ret nL mc ms Z pc lv (.ref (b + k) :: st) kc ks sh n σ := g_get hd hp hf hk hc g
theorem g_getL {k ci j idx : Nat} {q : List Nat} (hd : decode cc pc = .ok (.getfield idx, 3)) (hp : pc + 3 = pc') (hf : FLk y.cls idx ci j) (hk : isO sh n k ci q) (hc : q[j]? = some 1) (g : G l b cy D R y cc ret nL mc ms Z pc' lv (.long (σ.2 k j) :: st) kc ks sh n σ) : G l b cy D R y cc ret nL mc ms Z pc lv (.ref (b + k) :: st) kc ks sh n σ := g_get hd hp hf hk hc g
theorem cv_r {b : Nat} {σ : Sg} {k j a : Nat} : cv b σ k j (a + 3) = .ref (b + a) := by
  unfold cv
  rw [if_neg (by omega), if_neg (by omega), if_neg (by omega)]
  rfl
theorem g_getR {k ci j idx a : Nat} {q : List Nat} (hd : decode cc pc = .ok (.getfield idx, 3)) (hp : pc + 3 = pc') (hf : FLk y.cls idx ci j) (hk : isO sh n k ci q) (hc : q[j]? = some (a + 3)) (g : G l b cy D R y cc ret nL mc ms Z pc' lv (.ref (b + a) :: st) kc ks sh n σ) : G l b cy D R y cc ret nL mc ms Z pc lv (.ref (b + k) :: st) kc ks sh n σ := g_get hd hp hf hk hc (by rw [cv_r]; exact g)
theorem g_put {k ci j idx cd : Nat} {q : List Nat} {ty : FieldType} {v : Value} {σ' : Sg} (hd : decode cc pc = .ok (.putfield idx, 3)) (hp : pc + 3 = pc') (hf : PLk y.cls idx ci j ty false) (hk : isO sh n k ci q) (hc : q[j]? = some cd) (hn : narrow ty v = v) (hfit : fits ty v = true) (hs : (q.mapIdx (cv b σ k)).set j v = q.mapIdx (cv b σ' k)) (ho : ∀ a, a ≠ k → ce b cy sh σ' a = ce b cy sh σ a) (g : G l b cy D R y cc ret nL mc ms Z pc' lv st kc ks sh n σ') : G l b cy D R y cc ret nL mc ms Z pc lv (v :: .ref (b + k) :: st) kc ks sh n σ := by
  subst hp
  intro p e s m args below meth c H locs ls hx hb hr hml hown hts hlk hmn hK hbs hW hS hl
  obtain ⟨C, T, N, h1, h2, h3, h5, h6, h4⟩ := hf
  have hm : (C, T, N) ∈ vwCl := List.mem_of_getElem? h1
  have hin : ∀ w ∈ u_ws C T N, w ∈ gt := cl_in (C, T, N) hm
  have hlen : j < (q.mapIdx (cv b σ k)).length := by rw [List.length_mapIdx]; exact (List.getElem?_eq_some_iff.mp hc).1
  have hty : parseFieldDescriptor (T j).2.2.1 = some ty := by rw [← h6]; exact cl_ty ci (cl_lt h1) (C, T, N) h1 j h2
  have fin : ∀ (H1 : Heap) (locs1 : List Loc), H1.size = H.size → va_P D vwCl ((wl b cy sh n σ).set k (b + k, .inr (ci, (q.mapIdx (cv b σ k)).set j v))) H1 → va_S (fun q => b ≤ q) s.heap H1 locs1 → W p l e R s m args below meth c H1 locs1 kc ks (MQ below (Qx b cy D Z) args s mc ms (fun q => b ≤ q)) (F0 m (pc + 3) ls st) := by
    intro H1 locs1 hz hP hS1
    rw [wl_set hk.1 (by rw [ce_o σ' hk, hs]) ho] at hP
    exact g hx hb hr hml hown hts hlk hmn hK hbs ⟨fun h => hz.trans (hW.1 h), hP⟩ hS1 hl
  have hap := va_apart (own := y.cls) hts hin (tyOf ci) (fun k hk => cl_ty ci (cl_lt h1) (C, T, N) h1 k hk) (cl_nm (C, T, N) hm) hK.1 h1
  obtain ⟨r, g1, cell, q1, q2, q3, q4⟩ := hW.2 k _ (wl_o σ hk)
  have hr' : r = (C, T, N) := Option.some.inj (g1.symm.trans h1)
  subst hr'
  obtain ⟨hSl, hfc, kC, hkC, hkind⟩ := hK.1.1 ci _ h1
  obtain ⟨cf, kf, fi, f, hi, hsl⟩ := hSl j h2
  have hlay := hts _ (hin _ (u_in_lay h2))
  unfold u_lay at hlay
  rw [if_neg (by rw [h5]; decide)] at hlay
  have hst := (u_facts hfc hkC (u_lays hts hin h2) hi).1
  have h6' := u_store hfc hkC hkind hlay hi hty hn hfit
  have hsame : ∀ x, s.fieldFound? (T j).1 (T j).2.1 (T j).2.2.1 = some x → s.fieldFound? C (T j).2.1 (T j).2.2.1 = some x := fun _ h9 => by rw [h3] at h9; exact h9
  have done : ∀ (H' : Heap) (L : List Loc), H'[b + k]? = some (cell.setSlot f.slot v) → H'.size = H.size → (∀ q, q ≠ b + k → H'[q]? = H[q]?) → L = locs ++ [⟨b + k, f.slot⟩] → W p l e R s m args below meth c H' L kc ks (MQ below (Qx b cy D Z) args s mc ms (fun q => b ≤ q)) (F0 m (pc + 3) ls st) := by
    intro H' L e1 e2 e3 eL
    subst eL
    rw [hsl] at e1
    exact fin H' _ e2 (hW.2.set wl_D (wl_o σ hk) ⟨_, h1, t_OB.to (V := updV (vp_V (q.mapIdx (cv b σ k))) j v) ⟨_, e1, q2, q3, t_set q4 hap h2 v⟩ (fun i _ => vp_updV_set hlen v i)⟩ e3) (hS.put e2 e3 (Nat.le_add_right b k))
  rcases h4 with h4 | ⟨host, h4⟩
  · exact W.putK hx hb (f := f) ⟨hown, hts _ h4, ⟨_, _, _, hsame _ hi⟩, hst⟩ (by rw [q2]; exact h6') q1 q3 (by rw [hsl]; exact k2_hasslot (q4 j h2)) rfl rfl hd fun H' e1 e2 e3 => done H' _ e1 e2 e3 rfl
  · exact va_WputK hx hb hown (va_Nw.use rfl (hK.2.1 _ h4)) (hsame _ hi) hst (by rw [q2]; exact h6') q1 q3 (by rw [hsl]; exact k2_hasslot (q4 j h2)) rfl rfl hd fun H' e1 e2 e3 => done H' _ e1 e2 e3 rfl
theorem g_putI {k ci j idx : Nat} {q : List Nat} {v : Int32} (hd : decode cc pc = .ok (.putfield idx, 3)) (hp : pc + 3 = pc') (hf : PLk y.cls idx ci j .int false) (hk : isO sh n k ci q) (hc : q[j]? = some 0) (g : G l b cy D R y cc ret nL mc ms Z pc' lv st kc ks sh n (u2 σ.1 k j v, σ.2)) : G l b cy D R y cc ret nL mc ms Z pc lv (.int v :: .ref (b + k) :: st) kc ks sh n σ := g_put hd hp hf hk hc rfl rfl (mi_set1 hc) (fun _ h => ce_ne1 h) g
theorem g_putZ {k ci j idx : Nat} {q : List Nat} {v : Int32} (hd : decode cc pc = .ok (.putfield idx, 3)) (hp : pc + 3 = pc') (hf : PLk y.cls idx ci j .boolean false) (hv : v = 0 ∨ v = 1) (hk : isO sh n k ci q) (hc : q[j]? = some 0) (g : G l b cy D R y cc ret nL mc ms Z pc' lv st kc ks sh n (u2 σ.1 k j v, σ.2)) : G l b cy D R y cc ret nL mc ms Z pc lv (.int v :: .ref (b + k) :: st) kc ks sh n σ := g_put hd hp hf hk hc (by rcases hv with rfl | rfl <;> rfl) (by rcases hv with rfl | rfl <;> rfl) (mi_set1 hc) (fun _ h => ce_ne1 h) g
theorem g_putL {k ci j idx : Nat} {q : List Nat} {v : Int64} (hd : decode cc pc = .ok (.putfield idx, 3)) (hp : pc + 3 = pc') (hf : PLk y.cls idx ci j .long false) (hk : isO sh n k ci q) (hc : q[j]? = some 1) (g : G l b cy D R y cc ret nL mc ms Z pc' lv st kc ks sh n (σ.1, u2 σ.2 k j v)) : G l b cy D R y cc ret nL mc ms Z pc lv (.long v :: .ref (b + k) :: st) kc ks sh n σ := g_put hd hp hf hk hc rfl rfl (mi_set2 hc) (fun _ h => ce_ne2 h) g
theorem upd_u2 {f : Nat → Nat → Int32} {k j : Nat} {v : Int32} : u2 f k j v k = upd (f k) j v := by
  funext i
  simp [u2, upd]
theorem updL_u2 {f : Nat → Nat → Int64} {k j : Nat} {v : Int64} : u2 f k j v k = vp_updL (f k) j v := by
  funext i
  simp [u2, vp_updL]
theorem g_iald {k z j : Nat} {q : List Nat} {i : Int32} (hd : decode cc pc = .ok (.iaload, 1)) (hp : pc + 1 = pc') (hk : isR sh n k 0 z q) (hz : z < 2 ^ 31) (hi : i = nI j) (hj : j < z) (g : G l b cy D R y cc ret nL mc ms Z pc' lv (.int (σ.1 k j) :: st) kc ks sh n σ) : G l b cy D R y cc ret nL mc ms Z pc lv (.int i :: .ref (b + k) :: st) kc ks sh n σ := by
  subst hp; subst hi
  intro p e s m args below meth c H locs ls hx hb hr hml hown hts hlk hmn hK hbs hW hS hl
  refine va_iald hx hb hK.1 hW.2 k 0 (wl_r σ hk) rfl (vp_in_nI hj hz) hd ?_
  rw [nI_clamp (by omega)]
  exact g hx hb hr hml hown hts hlk hmn hK hbs hW hS hl
theorem g_zald {k z j : Nat} {q : List Nat} {i : Int32} (hd : decode cc pc = .ok (.baload, 1)) (hp : pc + 1 = pc') (hk : isR sh n k 2 z q) (hz : z < 2 ^ 31) (hi : i = nI j) (hj : j < z) (g : G l b cy D R y cc ret nL mc ms Z pc' lv (.int (σ.1 k j) :: st) kc ks sh n σ) : G l b cy D R y cc ret nL mc ms Z pc lv (.int i :: .ref (b + k) :: st) kc ks sh n σ := by
  subst hp; subst hi
  intro p e s m args below meth c H locs ls hx hb hr hml hown hts hlk hmn hK hbs hW hS hl
  refine va_zald hx hb hK.1 hW.2 k 2 (wl_r σ hk) rfl (vp_in_nI hj hz) hd ?_
  rw [nI_clamp (by omega)]
  exact g hx hb hr hml hown hts hlk hmn hK hbs hW hS hl
theorem g_lald {k z j : Nat} {q : List Nat} {i : Int32} (hd : decode cc pc = .ok (.laload, 1)) (hp : pc + 1 = pc') (hk : isR sh n k 1 z q) (hz : z < 2 ^ 31) (hi : i = nI j) (hj : j < z) (g : G l b cy D R y cc ret nL mc ms Z pc' lv (.long (σ.2 k j) :: st) kc ks sh n σ) : G l b cy D R y cc ret nL mc ms Z pc lv (.int i :: .ref (b + k) :: st) kc ks sh n σ := by
  subst hp; subst hi
  intro p e s m args below meth c H locs ls hx hb hr hml hown hts hlk hmn hK hbs hW hS hl
  refine va_lald hx hb hK.1 hW.2 k 1 (wl_r σ hk) rfl (vp_in_nI hj hz) hd ?_
  rw [nI_clamp (by omega)]
  exact g hx hb hr hml hown hts hlk hmn hK hbs hW hS hl
theorem rfs_at {b a j : Nat} {q : List Nat} (h : q[j]? = some (a + 1)) : rfs b q j = some (b + a) := by
  have e : q.getD j 0 = a + 1 := by rw [List.getD_eq_getElem?_getD, h]; rfl
  unfold rfs
  rw [e, if_neg (by omega)]
  rfl
theorem g_aald {k t z j a : Nat} {q : List Nat} {i : Int32} {C : String} (hd : decode cc pc = .ok (.aaload, 1)) (hp : pc + 1 = pc') (hk : isR sh n k t z q) (ht : 3 ≤ t) (hty : (tyl cy)[t]? = some (cy t, .object C)) (hz : z < 2 ^ 31) (hi : i = nI j) (hj : j < z) (hq : q[j]? = some (a + 1)) (g : G l b cy D R y cc ret nL mc ms Z pc' lv (.ref (b + a) :: st) kc ks sh n σ) : G l b cy D R y cc ret nL mc ms Z pc lv (.int i :: .ref (b + k) :: st) kc ks sh n σ := by
  subst hp; subst hi
  intro p e s m args below meth c H locs ls hx hb hr hml hown hts hlk hmn hK hbs hW hS hl
  refine va_aldq (f := rfs b q) hx hb hK.1 hW.2 k t (by rw [wl_r σ hk]; unfold ra; rw [if_neg (by omega), if_neg (by omega)]) hty (vp_in_nI hj hz) hd ?_
  rw [nI_clamp (by omega), rfs_at hq]
  exact g hx hb hr hml hown hts hlk hmn hK hbs hW hS hl
theorem g_iast {k z j : Nat} {q : List Nat} {i v : Int32} (hd : decode cc pc = .ok (.iastore, 1)) (hp : pc + 1 = pc') (hn : NP ≤ n) (hk : isR sh n k 0 z q) (hz : z < 2 ^ 31) (hi : i = nI j) (hj : j < z) (g : G l b cy D R y cc ret nL mc ms Z pc' lv st kc ks sh n (u2 σ.1 k j v, σ.2)) : G l b cy D R y cc ret nL mc ms Z pc lv (.int v :: .int i :: .ref (b + k) :: st) kc ks sh n σ := by
  subst hp; subst hi
  intro p e s m args below meth c H locs ls hx hb hr hml hown hts hlk hmn hK hbs hW hS hl
  refine va_iast hx hb hK.1 hW.2 wl_D hS k 0 (wl_r σ hk) rfl (vp_in_nI hj hz) hd (fun H1 locs1 hP _ hS1 => ?_)
  rw [nI_clamp (by omega)] at hP
  rw [wl_set (σ' := (u2 σ.1 k j v, σ.2)) hk.1 (by rw [ce_r _ hk]; show Sum.inl (cy 0, z, Sum.inl (u2 σ.1 k j v k)) = _; rw [upd_u2]) (fun _ h => ce_ne1 h)] at hP
  exact g hx hb hr hml hown hts hlk hmn hK hbs ⟨fun h => absurd h (by omega), hP⟩ hS1 hl
theorem g_zast {k z j : Nat} {q : List Nat} {i v : Int32} (hd : decode cc pc = .ok (.bastore, 1)) (hp : pc + 1 = pc') (hn : NP ≤ n) (hv : v = 0 ∨ v = 1) (hk : isR sh n k 2 z q) (hz : z < 2 ^ 31) (hi : i = nI j) (hj : j < z) (g : G l b cy D R y cc ret nL mc ms Z pc' lv st kc ks sh n (u2 σ.1 k j v, σ.2)) : G l b cy D R y cc ret nL mc ms Z pc lv (.int v :: .int i :: .ref (b + k) :: st) kc ks sh n σ := by
  subst hp; subst hi
  intro p e s m args below meth c H locs ls hx hb hr hml hown hts hlk hmn hK hbs hW hS hl
  refine va_zast hx hb hK.1 hW.2 wl_D hS k 2 (wl_r σ hk) rfl (vp_in_nI hj hz) hd (fun H1 locs1 hP _ hS1 => ?_)
  rw [nI_clamp (by omega), show vp_nar .boolean v = v by rcases hv with rfl | rfl <;> rfl] at hP
  rw [wl_set (σ' := (u2 σ.1 k j v, σ.2)) hk.1 (by rw [ce_r _ hk]; show Sum.inl (cy 2, z, Sum.inl (u2 σ.1 k j v k)) = _; rw [upd_u2]) (fun _ h => ce_ne1 h)] at hP
  exact g hx hb hr hml hown hts hlk hmn hK hbs ⟨fun h => absurd h (by omega), hP⟩ hS1 hl
theorem g_last {k z j : Nat} {q : List Nat} {i : Int32} {v : Int64} (hd : decode cc pc = .ok (.lastore, 1)) (hp : pc + 1 = pc') (hn : NP ≤ n) (hk : isR sh n k 1 z q) (hz : z < 2 ^ 31) (hi : i = nI j) (hj : j < z) (g : G l b cy D R y cc ret nL mc ms Z pc' lv st kc ks sh n (σ.1, u2 σ.2 k j v)) : G l b cy D R y cc ret nL mc ms Z pc lv (.long v :: .int i :: .ref (b + k) :: st) kc ks sh n σ := by
  subst hp; subst hi
  intro p e s m args below meth c H locs ls hx hb hr hml hown hts hlk hmn hK hbs hW hS hl
  refine va_last hx hb hK.1 hW.2 wl_D hS k 1 (wl_r σ hk) rfl (vp_in_nI hj hz) hd (fun H1 locs1 hP _ hS1 => ?_)
  rw [nI_clamp (by omega)] at hP
  rw [wl_set (σ' := (σ.1, u2 σ.2 k j v)) hk.1 (by rw [ce_r _ hk]; show Sum.inl (cy 1, z, Sum.inr (Sum.inl (u2 σ.2 k j v k))) = _; rw [updL_u2]) (fun _ h => ce_ne2 h)] at hP
  exact g hx hb hr hml hown hts hlk hmn hK hbs ⟨fun h => absurd h (by omega), hP⟩ hS1 hl
/-- the row at place k with the n ints from sp of the row at place k0 laid into it from dp on -/
def cpy (f : Nat → Nat → Int32) (k0 k sp dp m : Nat) : Nat → Nat → Int32 := fun a i => if a = k then va_cpy (f k0) (f k) sp dp m i else f a i
theorem ce_cpy {b : Nat} {cy : Nat → ClassId} {sh : Nat → Shp} {σ : Sg} {k0 k sp dp m a : Nat} (h : a ≠ k) : ce b cy sh (cpy σ.1 k0 k sp dp m, σ.2) a = ce b cy sh σ a := by
  have e : cpy σ.1 k0 k sp dp m a = σ.1 a := funext fun i => if_neg h
  unfold ce
  cases sh a with
  | inl o =>
    have : cv b (cpy σ.1 k0 k sp dp m, σ.2) a = cv b σ a := by funext i q; simp only [cv, e]
    simp only [this]
  | inr r => simp only [ra, e]
theorem g_copy {k0 k z0 z sp dp cn idx : Nat} {q0 q : List Nat} {isp idp im : Int32} (hd : decode cc pc = .ok (.invokestatic idx, 3)) (hp : pc + 3 = pc') (hn : NP ≤ n) (hlk' : Cond.methodLink y.cls idx arraycopyName ∈ gt) (hnat : Cond.native arraycopyName ∈ gt) (hsta : Cond.static arraycopyName ∈ gt) (hini : Cond.initialized "java/lang/System" ∈ gt) (hk0 : isR sh n k0 0 z0 q0) (hk : isR sh n k 0 z q) (h1 : isp = nI sp) (h2 : idp = nI dp) (h3 : im = nI cn) (h4 : sp + cn ≤ z0) (h5 : dp + cn ≤ z) (hz0 : z0 < 2 ^ 31) (hz : z < 2 ^ 31) (hR : 1 ≤ R.frames ∧ (st.map fun v => v.category).sum + (nativeFrameWords "java/lang/System" "arraycopy" 5 + 11) ≤ R.locals) (g : G l b cy D R y cc ret nL mc ms Z pc' lv st kc ks sh n (cpy σ.1 k0 k sp dp cn, σ.2)) : G l b cy D R y cc ret nL mc ms Z pc lv (.int im :: .int idp :: .ref (b + k) :: .int isp :: .ref (b + k0) :: st) kc ks sh n σ := by
  subst hp; subst h1; subst h2; subst h3
  intro p e s m args below meth c H locs ls hx hb hr hml hown hts hlk hmn hK hbs hW hS hl
  refine va_copyi hx hb (hml.trans hl.1.symm) hown (hts _ hlk') (hts _ hnat) (hts _ hsta) (hts _ hini) hK.1 hW.2 wl_D hS k0 k 0 0 (wl_r σ hk0) (wl_r σ hk) rfl rfl rfl (nI_pos (by omega)) (nI_pos (by omega)) (nI_pos (by omega)) (by rw [nI_clamp (by omega), nI_clamp (by omega)]; exact h4) (by rw [nI_clamp (by omega), nI_clamp (by omega)]; exact h5) (fun _ _ => rfl) hR.1 hR.2 hd (fun H1 locs1 hP _ hS1 => ?_)
  rw [nI_clamp (by omega), nI_clamp (by omega), nI_clamp (by omega)] at hP
  rw [wl_set (σ' := (cpy σ.1 k0 k sp dp cn, σ.2)) hk.1 (by rw [ce_r _ hk]; show Sum.inl (cy 0, z, Sum.inl (cpy σ.1 k0 k sp dp cn k)) = _; rw [show cpy σ.1 k0 k sp dp cn k = va_cpy (σ.1 k0) (σ.1 k) sp dp cn from funext fun i => if_pos rfl]) (fun _ h => ce_cpy h)] at hP
  exact g hx hb hr hml hown hts hlk hmn hK hbs ⟨fun h => absurd h (by omega), hP⟩ hS1 hl
/-- a call of a method of an object, and of a static one, by the pool's entry -/
def VLk (own : String) (idx : Nat) (y : MethodName) (cc : ByteArray) (nL : Nat) (ret : Option FieldType) (na : Nat) : Prop := Cond.methodLink own idx y ∈ gt ∧ Cond.instanceMethod y ∈ gt ∧ Cond.selects y.cls y y ∈ gt ∧ Cond.initialized y.cls ∈ gt ∧ Cond.code y cc nL ret ∈ gt ∧ (y.cls ≠ "java/lang/invoke/MethodHandle" ∧ y.cls ≠ "java/lang/invoke/VarHandle" ∧ (parseMethodDescriptor y.desc).map (fun d => d.parameters.length) = some na)
def SLk (own : String) (idx : Nat) (y : MethodName) (cc : ByteArray) (nL : Nat) (ret : Option FieldType) (na : Nat) : Prop := Cond.methodLink own idx y ∈ gt ∧ Cond.static y ∈ gt ∧ Cond.initialized y.cls ∈ gt ∧ Cond.code y cc nL ret ∈ gt ∧ (y.cls ≠ "java/lang/invoke/MethodHandle" ∧ y.cls ≠ "java/lang/invoke/VarHandle" ∧ (parseMethodDescriptor y.desc).map (fun d => d.parameters.length) = some na)
theorem gt_ws {y : MethodName} {cc : ByteArray} {nL : Nat} {ret : Option FieldType} (h : Cond.code y cc nL ret ∈ gt) : GoodIn gt (Cond.code y cc nL ret :: gt) := by
  intro w hw
  rcases List.mem_cons.mp hw with rfl | hw
  · exact ⟨h, good_of_word (gt_good h)⟩
  · exact ⟨hw, good_of_word (gt_good hw)⟩
theorem px_blind {b : Nat} {cy : Nat → ClassId} {D : va_G} {av : List Value} {sh : Nat → Shp} {n : Nat} {σ : Sg} : FrameBlind (Px b cy D av sh n σ) := fun a U gf mk h => ⟨h.1, Kx.same (s := U) (U := U.calling gf mk a) rfl rfl h.2.1, h.2.2⟩
theorem px_at {b : Nat} {cy : Nat → ClassId} {D : va_G} {av : List Value} {sh : Nat → Shp} {n : Nat} {σ : Sg} {s : State} {H : Heap} {locs : List Loc} (hK : Kx b cy D s) (hW : Wd b cy D sh n σ H) (hS : va_S (fun q => b ≤ q) s.heap H locs) : ∀ U : State, U.heap = H → s.WarmedH U.vm → Px b cy D av sh n σ av.toArray U := fun U hU hw => ⟨rfl, hK.go hw (fun a h1 h2 => by rw [hU]; exact hS.2.1 a h1 h2), by rw [hU]; exact hW⟩
theorem w_back {p : Program} {e : Env} {s : State} {m : MethodId} {args : Array Value} {below : List Frame} {meth : Method} {c : Code} {H : Heap} {locs : List Loc} {ls : Array Slot} {mc' ms' : Nat} {Z' : Zt} {st0 rest : List Value} {a : Array Value} {Q : State → Prop} (hr : va_Run p l e R s m args below meth c H locs kc ks mc' ms' (F0 m pc ls st0) rest (Qx b cy D Z' a) (fun q => b ≤ q)) (hS : va_S (fun q => b ≤ q) s.heap H locs)
    (kk : ∀ (H1 : Heap) (locs1 : List Loc), Wd b cy D Z'.2.1 Z'.2.2.1 Z'.2.2.2 H1 → va_S (fun q => b ≤ q) s.heap H1 locs1 → W p l e R s m args below meth c H1 locs1 (kc + mc') (ks + ms') Q (F0 m (pc + 3) ls (Z'.1.toList ++ rest))) : W p l e R s m args below meth c H locs kc ks Q (F0 m pc ls st0) := by
  intro T hT X
  obtain ⟨v, st₀, t, T', L, h0, X', hL, e1, e2, ⟨hv, hw, hz, hk⟩, stp⟩ := hr T hT X
  cases hv
  rw [h0] at hz hk
  obtain ⟨t2, a1, b1⟩ := kk T'.heap (locs ++ L) (by rw [e1]; exact hw) ⟨Nat.le_trans hS.1 (by rw [e1]; exact hz), fun q h1 h2 => by rw [e1, hk q (Nat.lt_of_lt_of_le h1 hS.1) h2]; exact hS.2.1 q h1 h2, fun q hq => by
      rcases List.mem_append.mp hq with h | h
      · exact hS.2.2 q h
      · exact hL q h⟩ T' rfl X'
  exact ⟨t2, stp t2 a1, b1⟩
/-- one room holds another one and its frame -/
def RmO (R R' : Room) (nL' : Nat) : Prop := R'.frames + 1 ≤ R.frames ∧ 8 + (nL' + 11) + R'.locals ≤ R.locals
theorem g_call {y' : MethodName} {cc' : ByteArray} {ret' : Option FieldType} {nL' na k ci idx : Nat} {q : List Nat} {R' : Room} {As st0 : List Value} {Z' : Zt} (hd : decode cc pc = .ok (.invokevirtual idx, 3)) (hp : pc + 3 = pc') (hL : VLk y.cls idx y' cc' nL' ret' na) (hM : Ev l b cy D R' y' cc' ret' nL' 0 0 (.ref (b + k) :: As) sh n σ Z') (hk : isO sh n k ci q) (hci : (vwCl[ci]?).map (fun c => c.1) = some y'.cls) (hR : RmO R R' nL') (hR0 : R'.cells = 0 ∧ R'.slots = 0) (hcs : kc ≤ R.cells ∧ ks ≤ R.slots) (hna : As.length = na) (hst : st0 = As.reverse ++ .ref (b + k) :: st) (hrm : (st.map fun v => v.category).sum ≤ 8) (g : G l b cy D R y cc ret nL mc ms Z pc' lv (Z'.1.toList ++ st) kc ks Z'.2.1 Z'.2.2.1 Z'.2.2.2) : G l b cy D R y cc ret nL mc ms Z pc lv st0 kc ks sh n σ := by
  subst hp
  intro p e s m args below meth c H locs ls hx hb hr hml hown hts hlk hmn hK hbs hW hS hl
  obtain ⟨h1, h2, h3, h4, h5, h6⟩ := hL
  obtain ⟨r, hr1, hr2⟩ : ∃ r, vwCl[ci]? = some r ∧ r.1 = y'.cls := by
    cases hq : vwCl[ci]? with
    | none => rw [hq] at hci; cases hci
    | some r => rw [hq] at hci; exact ⟨r, rfl, Option.some.inj hci⟩
  have hrec := va_recv hK.1 hW.2 hr1 (wl_o σ hk)
  rw [hr2] at hrec
  refine w_back (va_runV (As := As) (rest := st) (C := y'.cls) (n := na) ⟨hx, hb, hml, hown, hts⟩ hM ⟨callB_of na hts (gt_ws h5) rfl hR0.1 hR0.2 (hts _ h4) (hts _ h1) h6 hR, hts _ h2, hts _ h3⟩ ⟨px_blind, hrec, px_at hK hW hS⟩ rfl hna hl.1 hst (lv_room hrm) hd ⟨hcs.1, hcs.2⟩) hS (fun H1 locs1 hW1 hS1 => ?_)
  exact g hx hb hr hml hown hts hlk hmn hK hbs hW1 hS1 hl
theorem g_calls {y' : MethodName} {cc' : ByteArray} {ret' : Option FieldType} {nL' na idx : Nat} {R' : Room} {As st0 : List Value} {Z' : Zt} (hd : decode cc pc = .ok (.invokestatic idx, 3)) (hp : pc + 3 = pc') (hL : SLk y.cls idx y' cc' nL' ret' na) (hM : Ev l b cy D R' y' cc' ret' nL' 0 0 As sh n σ Z') (hR : RmO R R' nL') (hR0 : R'.cells = 0 ∧ R'.slots = 0) (hcs : kc ≤ R.cells ∧ ks ≤ R.slots) (hna : As.length = na) (hst : st0 = As.reverse ++ st) (hrm : (st.map fun v => v.category).sum ≤ 8) (g : G l b cy D R y cc ret nL mc ms Z pc' lv (Z'.1.toList ++ st) kc ks Z'.2.1 Z'.2.2.1 Z'.2.2.2) : G l b cy D R y cc ret nL mc ms Z pc lv st0 kc ks sh n σ := by
  subst hp
  intro p e s m args below meth c H locs ls hx hb hr hml hown hts hlk hmn hK hbs hW hS hl
  obtain ⟨h1, h2, h4, h5, h6⟩ := hL
  refine w_back (va_runS (As := As) (rest := st) (n := na) ⟨hx, hb, hml, hown, hts⟩ hM ⟨callB_of na hts (gt_ws h5) rfl hR0.1 hR0.2 (hts _ h4) (hts _ h1) h6 hR, hts _ h2⟩ ⟨px_blind, px_at hK hW hS⟩ rfl hna hl.1 hst (lv_room hrm) hd ⟨hcs.1, hcs.2⟩) hS (fun H1 locs1 hW1 hS1 => ?_)
  exact g hx hb hr hml hown hts hlk hmn hK hbs hW1 hS1 hl
theorem g_callr {y' : MethodName} {cc' : ByteArray} {ret' : Option FieldType} {nL' na k ci idx : Nat} {q : List Nat} {R' : Room} {As st0 : List Value} {v : Value} {sh' : Nat → Shp} {n' : Nat} {σ' : Sg} (hd : decode cc pc = .ok (.invokevirtual idx, 3)) (hp : pc + 3 = pc') (hL : VLk y.cls idx y' cc' nL' ret' na) (hM : Ev l b cy D R' y' cc' ret' nL' 0 0 (.ref (b + k) :: As) sh n σ (some v, sh', n', σ')) (hk : isO sh n k ci q) (hci : (vwCl[ci]?).map (fun c => c.1) = some y'.cls) (hR : RmO R R' nL') (hR0 : R'.cells = 0 ∧ R'.slots = 0) (hcs : kc ≤ R.cells ∧ ks ≤ R.slots) (hna : As.length = na) (hst : st0 = As.reverse ++ .ref (b + k) :: st) (hrm : (st.map fun v => v.category).sum ≤ 8) (g : G l b cy D R y cc ret nL mc ms Z pc' lv (v :: st) kc ks sh' n' σ') : G l b cy D R y cc ret nL mc ms Z pc lv st0 kc ks sh n σ := g_call hd hp hL hM hk hci hR hR0 hcs hna hst hrm g
theorem g_callv {y' : MethodName} {cc' : ByteArray} {ret' : Option FieldType} {nL' na k ci idx : Nat} {q : List Nat} {R' : Room} {As st0 : List Value} {sh' : Nat → Shp} {n' : Nat} {σ' : Sg} (hd : decode cc pc = .ok (.invokevirtual idx, 3)) (hp : pc + 3 = pc') (hL : VLk y.cls idx y' cc' nL' ret' na) (hM : Ev l b cy D R' y' cc' ret' nL' 0 0 (.ref (b + k) :: As) sh n σ (none, sh', n', σ')) (hk : isO sh n k ci q) (hci : (vwCl[ci]?).map (fun c => c.1) = some y'.cls) (hR : RmO R R' nL') (hR0 : R'.cells = 0 ∧ R'.slots = 0) (hcs : kc ≤ R.cells ∧ ks ≤ R.slots) (hna : As.length = na) (hst : st0 = As.reverse ++ .ref (b + k) :: st) (hrm : (st.map fun v => v.category).sum ≤ 8) (g : G l b cy D R y cc ret nL mc ms Z pc' lv st kc ks sh' n' σ') : G l b cy D R y cc ret nL mc ms Z pc lv st0 kc ks sh n σ := g_call hd hp hL hM hk hci hR hR0 hcs hna hst hrm g
theorem g_callsr {y' : MethodName} {cc' : ByteArray} {ret' : Option FieldType} {nL' na idx : Nat} {R' : Room} {As st0 : List Value} {v : Value} {sh' : Nat → Shp} {n' : Nat} {σ' : Sg} (hd : decode cc pc = .ok (.invokestatic idx, 3)) (hp : pc + 3 = pc') (hL : SLk y.cls idx y' cc' nL' ret' na) (hM : Ev l b cy D R' y' cc' ret' nL' 0 0 As sh n σ (some v, sh', n', σ')) (hR : RmO R R' nL') (hR0 : R'.cells = 0 ∧ R'.slots = 0) (hcs : kc ≤ R.cells ∧ ks ≤ R.slots) (hna : As.length = na) (hst : st0 = As.reverse ++ st) (hrm : (st.map fun v => v.category).sum ≤ 8) (g : G l b cy D R y cc ret nL mc ms Z pc' lv (v :: st) kc ks sh' n' σ') : G l b cy D R y cc ret nL mc ms Z pc lv st0 kc ks sh n σ := g_calls hd hp hL hM hR hR0 hcs hna hst hrm g
/-- the rooms of methods that make nothing, by how deep they call -/
def rm (d : Nat) : Room := { frames := d, cells := 0, slots := 0, locals := 40 * d }
theorem rm_ok {d d' nL : Nat} (h : d' + 1 ≤ d) (h2 : nL ≤ 21) : RmO (rm d) (rm d') nL := ⟨h, by show 8 + (nL + 11) + 40 * d' ≤ 40 * d; omega⟩

end
