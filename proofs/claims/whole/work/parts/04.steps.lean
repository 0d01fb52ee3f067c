/-! a row of P for each instruction -/
section Steps
variable {l : Launch} {G : wG} {own : String} {cc : ByteArray} {nL : Nat} {nm : String} {R : Room} {P : PT} {k n pc : Nat} {lv : List (Nat × Value)} {st : List Value} {ws : va_W}
theorem st_iconst (C : Cx l G own cc nL nm R P) {i : Int} {v : Int32} (hd : decode cc pc = .ok (.iconst i, 1)) (hv : Int32.ofInt i = v) (kk : P k n (pc + 1) lv (.int v :: st) ws) : P k n pc lv (st) ws := by
  obtain ⟨p, e, s, m, args, below, meth, c, A, Q, ⟨hx, hb, hml, hnm, hown, hts, hK, hA⟩, rfl⟩ := C
  intro H locs ls hP hD hS hl
  exact lv_iconst hx hb hd hv (kk H locs ls hP hD hS hl)
theorem st_bipush (C : Cx l G own cc nL nm R P) {i : Int} {v : Int32} (hd : decode cc pc = .ok (.bipush i, 2)) (hv : (Int8.ofInt i).toInt32 = v) (kk : P k n (pc + 2) lv (.int v :: st) ws) : P k n pc lv (st) ws := by
  obtain ⟨p, e, s, m, args, below, meth, c, A, Q, ⟨hx, hb, hml, hnm, hown, hts, hK, hA⟩, rfl⟩ := C
  intro H locs ls hP hD hS hl
  exact lv_bipush hx hb hd hv (kk H locs ls hP hD hS hl)
theorem st_sipush (C : Cx l G own cc nL nm R P) {i : Int} {v : Int32} (hd : decode cc pc = .ok (.sipush i, 3)) (hv : (Int16.ofInt i).toInt32 = v) (kk : P k n (pc + 3) lv (.int v :: st) ws) : P k n pc lv (st) ws := by
  obtain ⟨p, e, s, m, args, below, meth, c, A, Q, ⟨hx, hb, hml, hnm, hown, hts, hK, hA⟩, rfl⟩ := C
  intro H locs ls hP hD hS hl
  exact lv_sipush hx hb hd hv (kk H locs ls hP hD hS hl)
theorem st_lconst (C : Cx l G own cc nL nm R P) {i : Fin 2} {v : Int64} (hd : decode cc pc = .ok (.lconst i, 1)) (hv : Int64.ofNat (i : Nat) = v) (kk : P k n (pc + 1) lv (.long v :: st) ws) : P k n pc lv (st) ws := by
  obtain ⟨p, e, s, m, args, below, meth, c, A, Q, ⟨hx, hb, hml, hnm, hown, hts, hK, hA⟩, rfl⟩ := C
  intro H locs ls hP hD hS hl
  exact lv_lconst hx hb hd hv (kk H locs ls hP hD hS hl)
theorem st_iload_n (C : Cx l G own cc nL nm R P) {i : Fin 4} {x : Int32} (hd : decode cc pc = .ok (.iload_n i, 1)) (hk : lkL lv i.val = some (.int x)) (kk : P k n (pc + 1) lv (.int x :: st) ws) : P k n pc lv (st) ws := by
  obtain ⟨p, e, s, m, args, below, meth, c, A, Q, ⟨hx, hb, hml, hnm, hown, hts, hK, hA⟩, rfl⟩ := C
  intro H locs ls hP hD hS hl
  exact lv_iload_n hx hb hd rfl (lvg hl hk) (kk H locs ls hP hD hS hl)
theorem st_iload (C : Cx l G own cc nL nm R P) {i : Nat} {x : Int32} (hd : decode cc pc = .ok (.iload i, 2)) (hk : lkL lv i = some (.int x)) (kk : P k n (pc + 2) lv (.int x :: st) ws) : P k n pc lv (st) ws := by
  obtain ⟨p, e, s, m, args, below, meth, c, A, Q, ⟨hx, hb, hml, hnm, hown, hts, hK, hA⟩, rfl⟩ := C
  intro H locs ls hP hD hS hl
  exact lv_iload hx hb hd (lvg hl hk) (kk H locs ls hP hD hS hl)
theorem st_lload_n (C : Cx l G own cc nL nm R P) {i : Fin 4} {x : Int64} (hd : decode cc pc = .ok (.lload_n i, 1)) (hk : lkL lv i.val = some (.long x)) (kk : P k n (pc + 1) lv (.long x :: st) ws) : P k n pc lv (st) ws := by
  obtain ⟨p, e, s, m, args, below, meth, c, A, Q, ⟨hx, hb, hml, hnm, hown, hts, hK, hA⟩, rfl⟩ := C
  intro H locs ls hP hD hS hl
  exact lv_lload_n hx hb hd rfl (lvg hl hk) (kk H locs ls hP hD hS hl)
theorem st_lload (C : Cx l G own cc nL nm R P) {i : Nat} {x : Int64} (hd : decode cc pc = .ok (.lload i, 2)) (hk : lkL lv i = some (.long x)) (kk : P k n (pc + 2) lv (.long x :: st) ws) : P k n pc lv (st) ws := by
  obtain ⟨p, e, s, m, args, below, meth, c, A, Q, ⟨hx, hb, hml, hnm, hown, hts, hK, hA⟩, rfl⟩ := C
  intro H locs ls hP hD hS hl
  exact lv_lload hx hb hd (lvg hl hk) (kk H locs ls hP hD hS hl)
theorem st_aload_n (C : Cx l G own cc nL nm R P) {i : Fin 4} {x : Nat} (hd : decode cc pc = .ok (.aload_n i, 1)) (hk : lkL lv i.val = some (.ref x)) (kk : P k n (pc + 1) lv (.ref x :: st) ws) : P k n pc lv (st) ws := by
  obtain ⟨p, e, s, m, args, below, meth, c, A, Q, ⟨hx, hb, hml, hnm, hown, hts, hK, hA⟩, rfl⟩ := C
  intro H locs ls hP hD hS hl
  exact lv_aload_n hx hb hd rfl (lvg hl hk) (kk H locs ls hP hD hS hl)
theorem st_aload (C : Cx l G own cc nL nm R P) {i : Nat} {x : Nat} (hd : decode cc pc = .ok (.aload i, 2)) (hk : lkL lv i = some (.ref x)) (kk : P k n (pc + 2) lv (.ref x :: st) ws) : P k n pc lv (st) ws := by
  obtain ⟨p, e, s, m, args, below, meth, c, A, Q, ⟨hx, hb, hml, hnm, hown, hts, hK, hA⟩, rfl⟩ := C
  intro H locs ls hP hD hS hl
  exact lv_aload hx hb hd (lvg hl hk) (kk H locs ls hP hD hS hl)
theorem st_dload_n (C : Cx l G own cc nL nm R P) {i : Fin 4} {x : UInt64} (hd : decode cc pc = .ok (.dload_n i, 1)) (hk : lkL lv i.val = some (.double x)) (kk : P k n (pc + 1) lv (.double x :: st) ws) : P k n pc lv (st) ws := by
  obtain ⟨p, e, s, m, args, below, meth, c, A, Q, ⟨hx, hb, hml, hnm, hown, hts, hK, hA⟩, rfl⟩ := C
  intro H locs ls hP hD hS hl
  exact lv_dload_n hx hb hd rfl (lvg hl hk) (kk H locs ls hP hD hS hl)
theorem st_dload (C : Cx l G own cc nL nm R P) {i : Nat} {x : UInt64} (hd : decode cc pc = .ok (.dload i, 2)) (hk : lkL lv i = some (.double x)) (kk : P k n (pc + 2) lv (.double x :: st) ws) : P k n pc lv (st) ws := by
  obtain ⟨p, e, s, m, args, below, meth, c, A, Q, ⟨hx, hb, hml, hnm, hown, hts, hK, hA⟩, rfl⟩ := C
  intro H locs ls hP hD hS hl
  exact lv_dload hx hb hd (lvg hl hk) (kk H locs ls hP hD hS hl)
theorem st_istore_n (C : Cx l G own cc nL nm R P) {i : Fin 4} {x : Int32} (hd : decode cc pc = .ok (.istore_n i, 1)) (hn : i.val < nL) (ho : ok1 lv i.val = true) (kk : P k n (pc + 1) (upL lv i.val (.int x)) st ws) : P k n pc lv (.int x :: st) ws := by
  obtain ⟨p, e, s, m, args, below, meth, c, A, Q, ⟨hx, hb, hml, hnm, hown, hts, hK, hA⟩, rfl⟩ := C
  intro H locs ls hP hD hS hl
  exact lv_istore_n hx hb hd rfl hl hn rfl (fun ls9 hl9 => kk H locs ls9 hP hD hS (lvs1 hl9 ho))
theorem st_istore (C : Cx l G own cc nL nm R P) {i : Nat} {x : Int32} (hd : decode cc pc = .ok (.istore i, 2)) (hn : i < nL) (ho : ok1 lv i = true) (kk : P k n (pc + 2) (upL lv i (.int x)) st ws) : P k n pc lv (.int x :: st) ws := by
  obtain ⟨p, e, s, m, args, below, meth, c, A, Q, ⟨hx, hb, hml, hnm, hown, hts, hK, hA⟩, rfl⟩ := C
  intro H locs ls hP hD hS hl
  exact lv_istore hx hb hd hl hn rfl (fun ls9 hl9 => kk H locs ls9 hP hD hS (lvs1 hl9 ho))
theorem st_astore_n (C : Cx l G own cc nL nm R P) {i : Fin 4} {x : Nat} (hd : decode cc pc = .ok (.astore_n i, 1)) (hn : i.val < nL) (ho : ok1 lv i.val = true) (kk : P k n (pc + 1) (upL lv i.val (.ref x)) st ws) : P k n pc lv (.ref x :: st) ws := by
  obtain ⟨p, e, s, m, args, below, meth, c, A, Q, ⟨hx, hb, hml, hnm, hown, hts, hK, hA⟩, rfl⟩ := C
  intro H locs ls hP hD hS hl
  exact lv_astore_n hx hb hd rfl hl hn rfl (fun ls9 hl9 => kk H locs ls9 hP hD hS (lvs1 hl9 ho))
theorem st_astore (C : Cx l G own cc nL nm R P) {i : Nat} {x : Nat} (hd : decode cc pc = .ok (.astore i, 2)) (hn : i < nL) (ho : ok1 lv i = true) (kk : P k n (pc + 2) (upL lv i (.ref x)) st ws) : P k n pc lv (.ref x :: st) ws := by
  obtain ⟨p, e, s, m, args, below, meth, c, A, Q, ⟨hx, hb, hml, hnm, hown, hts, hK, hA⟩, rfl⟩ := C
  intro H locs ls hP hD hS hl
  exact lv_astore hx hb hd hl hn rfl (fun ls9 hl9 => kk H locs ls9 hP hD hS (lvs1 hl9 ho))
theorem st_lstore_n (C : Cx l G own cc nL nm R P) {i : Fin 4} {x : Int64} (hd : decode cc pc = .ok (.lstore_n i, 1)) (hn : i.val + 1 < nL) (ho : ok1 lv i.val = true) (h2 : ok2 lv i.val = true) (kk : P k n (pc + 1) (upL lv i.val (.long x)) st ws) : P k n pc lv (.long x :: st) ws := by
  obtain ⟨p, e, s, m, args, below, meth, c, A, Q, ⟨hx, hb, hml, hnm, hown, hts, hK, hA⟩, rfl⟩ := C
  intro H locs ls hP hD hS hl
  exact lv_lstore_n hx hb hd rfl hl hn rfl (fun ls9 hl9 => kk H locs ls9 hP hD hS (lvs2 hl9 ho h2))
theorem st_lstore (C : Cx l G own cc nL nm R P) {i : Nat} {x : Int64} (hd : decode cc pc = .ok (.lstore i, 2)) (hn : i + 1 < nL) (ho : ok1 lv i = true) (h2 : ok2 lv i = true) (kk : P k n (pc + 2) (upL lv i (.long x)) st ws) : P k n pc lv (.long x :: st) ws := by
  obtain ⟨p, e, s, m, args, below, meth, c, A, Q, ⟨hx, hb, hml, hnm, hown, hts, hK, hA⟩, rfl⟩ := C
  intro H locs ls hP hD hS hl
  exact lv_lstore hx hb hd hl hn rfl (fun ls9 hl9 => kk H locs ls9 hP hD hS (lvs2 hl9 ho h2))
theorem st_dstore_n (C : Cx l G own cc nL nm R P) {i : Fin 4} {x : UInt64} (hd : decode cc pc = .ok (.dstore_n i, 1)) (hn : i.val + 1 < nL) (ho : ok1 lv i.val = true) (h2 : ok2 lv i.val = true) (kk : P k n (pc + 1) (upL lv i.val (.double x)) st ws) : P k n pc lv (.double x :: st) ws := by
  obtain ⟨p, e, s, m, args, below, meth, c, A, Q, ⟨hx, hb, hml, hnm, hown, hts, hK, hA⟩, rfl⟩ := C
  intro H locs ls hP hD hS hl
  exact lv_dstore_n hx hb hd rfl hl hn rfl (fun ls9 hl9 => kk H locs ls9 hP hD hS (lvs2 hl9 ho h2))
theorem st_dstore (C : Cx l G own cc nL nm R P) {i : Nat} {x : UInt64} (hd : decode cc pc = .ok (.dstore i, 2)) (hn : i + 1 < nL) (ho : ok1 lv i = true) (h2 : ok2 lv i = true) (kk : P k n (pc + 2) (upL lv i (.double x)) st ws) : P k n pc lv (.double x :: st) ws := by
  obtain ⟨p, e, s, m, args, below, meth, c, A, Q, ⟨hx, hb, hml, hnm, hown, hts, hK, hA⟩, rfl⟩ := C
  intro H locs ls hP hD hS hl
  exact lv_dstore hx hb hd hl hn rfl (fun ls9 hl9 => kk H locs ls9 hP hD hS (lvs2 hl9 ho h2))
theorem st_iinc (C : Cx l G own cc nL nm R P) {i : Nat} {j : Int} {x v : Int32} (hd : decode cc pc = .ok (.iinc i j, 3)) (hk : lkL lv i = some (.int x)) (hv : x + Int32.ofInt j = v) (hn : i < nL) (ho : ok1 lv i = true) (kk : P k n (pc + 3) (upL lv i (.int v)) st ws) : P k n pc lv st ws := by
  obtain ⟨p, e, s, m, args, below, meth, c, A, Q, ⟨hx, hb, hml, hnm, hown, hts, hK, hA⟩, rfl⟩ := C
  intro H locs ls hP hD hS hl
  obtain ⟨j9, hj9⟩ := List.getElem?_of_mem (lkL_mem hk)
  exact lv_iinc hx hb hd hl hj9 hv hn rfl (fun ls9 hl9 => kk H locs ls9 hP hD hS (lvs1 hl9 ho))
theorem st_iadd (C : Cx l G own cc nL nm R P) {x y : Int32} (hd : decode cc pc = .ok (.iadd, 1)) (kk : P k n (pc + 1) lv (.int (x + y) :: st) ws) : P k n pc lv (.int y :: .int x :: st) ws := by
  obtain ⟨p, e, s, m, args, below, meth, c, A, Q, ⟨hx, hb, hml, hnm, hown, hts, hK, hA⟩, rfl⟩ := C
  intro H locs ls hP hD hS hl
  exact lv_iadd hx hb hd (kk H locs ls hP hD hS hl)
theorem st_isub (C : Cx l G own cc nL nm R P) {x y : Int32} (hd : decode cc pc = .ok (.isub, 1)) (kk : P k n (pc + 1) lv (.int (x - y) :: st) ws) : P k n pc lv (.int y :: .int x :: st) ws := by
  obtain ⟨p, e, s, m, args, below, meth, c, A, Q, ⟨hx, hb, hml, hnm, hown, hts, hK, hA⟩, rfl⟩ := C
  intro H locs ls hP hD hS hl
  exact lv_isub hx hb hd (kk H locs ls hP hD hS hl)
theorem st_imul (C : Cx l G own cc nL nm R P) {x y : Int32} (hd : decode cc pc = .ok (.imul, 1)) (kk : P k n (pc + 1) lv (.int (x * y) :: st) ws) : P k n pc lv (.int y :: .int x :: st) ws := by
  obtain ⟨p, e, s, m, args, below, meth, c, A, Q, ⟨hx, hb, hml, hnm, hown, hts, hK, hA⟩, rfl⟩ := C
  intro H locs ls hP hD hS hl
  exact lv_imul hx hb hd (kk H locs ls hP hD hS hl)
theorem st_iand (C : Cx l G own cc nL nm R P) {x y : Int32} (hd : decode cc pc = .ok (.iand, 1)) (kk : P k n (pc + 1) lv (.int (x &&& y) :: st) ws) : P k n pc lv (.int y :: .int x :: st) ws := by
  obtain ⟨p, e, s, m, args, below, meth, c, A, Q, ⟨hx, hb, hml, hnm, hown, hts, hK, hA⟩, rfl⟩ := C
  intro H locs ls hP hD hS hl
  exact lv_iand hx hb hd (kk H locs ls hP hD hS hl)
theorem st_ior (C : Cx l G own cc nL nm R P) {x y : Int32} (hd : decode cc pc = .ok (.ior, 1)) (kk : P k n (pc + 1) lv (.int (x ||| y) :: st) ws) : P k n pc lv (.int y :: .int x :: st) ws := by
  obtain ⟨p, e, s, m, args, below, meth, c, A, Q, ⟨hx, hb, hml, hnm, hown, hts, hK, hA⟩, rfl⟩ := C
  intro H locs ls hP hD hS hl
  exact lv_ior hx hb hd (kk H locs ls hP hD hS hl)
theorem st_ishl (C : Cx l G own cc nL nm R P) {x y : Int32} (hd : decode cc pc = .ok (.ishl, 1)) (kk : P k n (pc + 1) lv (.int (x <<< (y &&& 31)) :: st) ws) : P k n pc lv (.int y :: .int x :: st) ws := by
  obtain ⟨p, e, s, m, args, below, meth, c, A, Q, ⟨hx, hb, hml, hnm, hown, hts, hK, hA⟩, rfl⟩ := C
  intro H locs ls hP hD hS hl
  exact lv_ishl hx hb hd (kk H locs ls hP hD hS hl)
theorem st_ishr (C : Cx l G own cc nL nm R P) {x y : Int32} (hd : decode cc pc = .ok (.ishr, 1)) (kk : P k n (pc + 1) lv (.int (x >>> (y &&& 31)) :: st) ws) : P k n pc lv (.int y :: .int x :: st) ws := by
  obtain ⟨p, e, s, m, args, below, meth, c, A, Q, ⟨hx, hb, hml, hnm, hown, hts, hK, hA⟩, rfl⟩ := C
  intro H locs ls hP hD hS hl
  exact lv_ishr hx hb hd (kk H locs ls hP hD hS hl)
theorem st_idiv (C : Cx l G own cc nL nm R P) {x y : Int32} (hd : decode cc pc = .ok (.idiv, 1)) (hne : ¬ y = 0) (kk : P k n (pc + 1) lv (.int (x / y) :: st) ws) : P k n pc lv (.int y :: .int x :: st) ws := by
  obtain ⟨p, e, s, m, args, below, meth, c, A, Q, ⟨hx, hb, hml, hnm, hown, hts, hK, hA⟩, rfl⟩ := C
  intro H locs ls hP hD hS hl
  exact lv_idiv hx hb hd hne (kk H locs ls hP hD hS hl)
theorem st_irem (C : Cx l G own cc nL nm R P) {x y : Int32} (hd : decode cc pc = .ok (.irem, 1)) (hne : ¬ y = 0) (kk : P k n (pc + 1) lv (.int (x - x / y * y) :: st) ws) : P k n pc lv (.int y :: .int x :: st) ws := by
  obtain ⟨p, e, s, m, args, below, meth, c, A, Q, ⟨hx, hb, hml, hnm, hown, hts, hK, hA⟩, rfl⟩ := C
  intro H locs ls hP hD hS hl
  exact lv_irem hx hb hd hne (kk H locs ls hP hD hS hl)
theorem st_ineg (C : Cx l G own cc nL nm R P) {x : Int32} (hd : decode cc pc = .ok (.ineg, 1)) (kk : P k n (pc + 1) lv (.int (-x) :: st) ws) : P k n pc lv (.int x :: st) ws := by
  obtain ⟨p, e, s, m, args, below, meth, c, A, Q, ⟨hx, hb, hml, hnm, hown, hts, hK, hA⟩, rfl⟩ := C
  intro H locs ls hP hD hS hl
  exact lv_ineg hx hb hd (kk H locs ls hP hD hS hl)
theorem st_ladd (C : Cx l G own cc nL nm R P) {x y : Int64} (hd : decode cc pc = .ok (.ladd, 1)) (kk : P k n (pc + 1) lv (.long (x + y) :: st) ws) : P k n pc lv (.long y :: .long x :: st) ws := by
  obtain ⟨p, e, s, m, args, below, meth, c, A, Q, ⟨hx, hb, hml, hnm, hown, hts, hK, hA⟩, rfl⟩ := C
  intro H locs ls hP hD hS hl
  exact lv_ladd hx hb hd (kk H locs ls hP hD hS hl)
theorem st_lsub (C : Cx l G own cc nL nm R P) {x y : Int64} (hd : decode cc pc = .ok (.lsub, 1)) (kk : P k n (pc + 1) lv (.long (x - y) :: st) ws) : P k n pc lv (.long y :: .long x :: st) ws := by
  obtain ⟨p, e, s, m, args, below, meth, c, A, Q, ⟨hx, hb, hml, hnm, hown, hts, hK, hA⟩, rfl⟩ := C
  intro H locs ls hP hD hS hl
  exact lv_lsub hx hb hd (kk H locs ls hP hD hS hl)
theorem st_lmul (C : Cx l G own cc nL nm R P) {x y : Int64} (hd : decode cc pc = .ok (.lmul, 1)) (kk : P k n (pc + 1) lv (.long (x * y) :: st) ws) : P k n pc lv (.long y :: .long x :: st) ws := by
  obtain ⟨p, e, s, m, args, below, meth, c, A, Q, ⟨hx, hb, hml, hnm, hown, hts, hK, hA⟩, rfl⟩ := C
  intro H locs ls hP hD hS hl
  exact lv_lmul hx hb hd (kk H locs ls hP hD hS hl)
theorem st_land (C : Cx l G own cc nL nm R P) {x y : Int64} (hd : decode cc pc = .ok (.land, 1)) (kk : P k n (pc + 1) lv (.long (x &&& y) :: st) ws) : P k n pc lv (.long y :: .long x :: st) ws := by
  obtain ⟨p, e, s, m, args, below, meth, c, A, Q, ⟨hx, hb, hml, hnm, hown, hts, hK, hA⟩, rfl⟩ := C
  intro H locs ls hP hD hS hl
  exact lv_land hx hb hd (kk H locs ls hP hD hS hl)
theorem st_lor (C : Cx l G own cc nL nm R P) {x y : Int64} (hd : decode cc pc = .ok (.lor, 1)) (kk : P k n (pc + 1) lv (.long (x ||| y) :: st) ws) : P k n pc lv (.long y :: .long x :: st) ws := by
  obtain ⟨p, e, s, m, args, below, meth, c, A, Q, ⟨hx, hb, hml, hnm, hown, hts, hK, hA⟩, rfl⟩ := C
  intro H locs ls hP hD hS hl
  exact lv_lor hx hb hd (kk H locs ls hP hD hS hl)
theorem st_lshl (C : Cx l G own cc nL nm R P) {x : Int64} {y : Int32} (hd : decode cc pc = .ok (.lshl, 1)) (kk : P k n (pc + 1) lv (.long (x <<< (y.toInt64 &&& 63)) :: st) ws) : P k n pc lv (.int y :: .long x :: st) ws := by
  obtain ⟨p, e, s, m, args, below, meth, c, A, Q, ⟨hx, hb, hml, hnm, hown, hts, hK, hA⟩, rfl⟩ := C
  intro H locs ls hP hD hS hl
  exact lv_lshl hx hb hd rfl (kk H locs ls hP hD hS hl)
theorem st_i2l (C : Cx l G own cc nL nm R P) {x : Int32} (hd : decode cc pc = .ok (.i2l, 1)) (kk : P k n (pc + 1) lv (.long x.toInt64 :: st) ws) : P k n pc lv (.int x :: st) ws := by
  obtain ⟨p, e, s, m, args, below, meth, c, A, Q, ⟨hx, hb, hml, hnm, hown, hts, hK, hA⟩, rfl⟩ := C
  intro H locs ls hP hD hS hl
  exact lv_i2l hx hb hd rfl (kk H locs ls hP hD hS hl)
theorem st_i2d (C : Cx l G own cc nL nm R P) {x : Int32} (hd : decode cc pc = .ok (.i2d, 1)) (kk : P k n (pc + 1) lv (.double (FP.i2d x) :: st) ws) : P k n pc lv (.int x :: st) ws := by
  obtain ⟨p, e, s, m, args, below, meth, c, A, Q, ⟨hx, hb, hml, hnm, hown, hts, hK, hA⟩, rfl⟩ := C
  intro H locs ls hP hD hS hl
  exact lv_i2d hx hb hd (kk H locs ls hP hD hS hl)
theorem st_ddiv (C : Cx l G own cc nL nm R P) {x y : UInt64} (hd : decode cc pc = .ok (.ddiv, 1)) (hne : vf_n64 (FP.ddiv x y)) (kk : P k n (pc + 1) lv (.double (FP.ddiv x y) :: st) ws) : P k n pc lv (.double y :: .double x :: st) ws := by
  obtain ⟨p, e, s, m, args, below, meth, c, A, Q, ⟨hx, hb, hml, hnm, hown, hts, hK, hA⟩, rfl⟩ := C
  intro H locs ls hP hD hS hl
  exact lv_ddiv hx hb hd hne (kk H locs ls hP hD hS hl)
theorem st_dcmp (C : Cx l G own cc nL nm R P) {x y : UInt64} {op : CmpOp} (hd : decode cc pc = .ok (.dcmp op, 1)) (kk : P k n (pc + 1) lv (.int (Op.cmpValue (FP.dcmp x y) op) :: st) ws) : P k n pc lv (.double y :: .double x :: st) ws := by
  obtain ⟨p, e, s, m, args, below, meth, c, A, Q, ⟨hx, hb, hml, hnm, hown, hts, hK, hA⟩, rfl⟩ := C
  intro H locs ls hP hD hS hl
  exact lv_dcmp hx hb hd (kk H locs ls hP hD hS hl)
theorem st_lcmp (C : Cx l G own cc nL nm R P) {x y : Int64} (hd : decode cc pc = .ok (.lcmp, 1)) (kk : P k n (pc + 1) lv (.int (lg_cmp x y) :: st) ws) : P k n pc lv (.long y :: .long x :: st) ws := by
  obtain ⟨p, e, s, m, args, below, meth, c, A, Q, ⟨hx, hb, hml, hnm, hown, hts, hK, hA⟩, rfl⟩ := C
  intro H locs ls hP hD hS hl
  exact W.lcmp hx hb hd (kk H locs ls hP hD hS hl)
theorem st_dup (C : Cx l G own cc nL nm R P) {va : Value} (hd : decode cc pc = .ok (.dup, 1)) (hc : va.category = 1) (kk : P k n (pc + 1) lv (va :: va :: st) ws) : P k n pc lv (va :: st) ws := by
  obtain ⟨p, e, s, m, args, below, meth, c, A, Q, ⟨hx, hb, hml, hnm, hown, hts, hK, hA⟩, rfl⟩ := C
  intro H locs ls hP hD hS hl
  exact lv_dup hx hb hd hc (kk H locs ls hP hD hS hl)
theorem st_dup2 (C : Cx l G own cc nL nm R P) {va vb : Value} (hd : decode cc pc = .ok (.dup2, 1)) (hc : va.category = 1) (hc2 : vb.category = 1) (kk : P k n (pc + 1) lv (va :: vb :: va :: vb :: st) ws) : P k n pc lv (va :: vb :: st) ws := by
  obtain ⟨p, e, s, m, args, below, meth, c, A, Q, ⟨hx, hb, hml, hnm, hown, hts, hK, hA⟩, rfl⟩ := C
  intro H locs ls hP hD hS hl
  exact lv_dup2_11 hx hb hd hc hc2 (kk H locs ls hP hD hS hl)
theorem st_pop (C : Cx l G own cc nL nm R P) {va : Value} (hd : decode cc pc = .ok (.pop, 1)) (hc : va.category = 1) (kk : P k n (pc + 1) lv (st) ws) : P k n pc lv (va :: st) ws := by
  obtain ⟨p, e, s, m, args, below, meth, c, A, Q, ⟨hx, hb, hml, hnm, hown, hts, hK, hA⟩, rfl⟩ := C
  intro H locs ls hP hD hS hl
  exact lv_pop hx hb hd hc (kk H locs ls hP hD hS hl)
theorem st_goto (C : Cx l G own cc nL nm R P) {off : Int} {tgt : Nat} (hd : decode cc pc = .ok (.goto off, 3)) (ht : (pc : Int) + off = (tgt : Int)) (kk : P k n tgt lv st ws) : P k n pc lv st ws := by
  obtain ⟨p, e, s, m, args, below, meth, c, A, Q, ⟨hx, hb, hml, hnm, hown, hts, hK, hA⟩, rfl⟩ := C
  intro H locs ls hP hD hS hl
  exact lv_goto hx hb hd ht (kk H locs ls hP hD hS hl)
theorem st_if_eq (C : Cx l G own cc nL nm R P) {x : Int32} {off : Int} {tgt : Nat} (hd : decode cc pc = .ok (.ifCond .eq off, 3)) (ht : (pc : Int) + off = (tgt : Int)) (kt : x = 0 → P k n tgt lv st ws) (kf : ¬ x = 0 → P k n (pc + 3) lv st ws) : P k n pc lv (.int x :: st) ws := by
  obtain ⟨p, e, s, m, args, below, meth, c, A, Q, ⟨hx, hb, hml, hnm, hown, hts, hK, hA⟩, rfl⟩ := C
  intro H locs ls hP hD hS hl
  exact lv_if_eq hx hb hd ht (fun h => kt h H locs ls hP hD hS hl) (fun h => kf h H locs ls hP hD hS hl)
theorem st_icmp_eq (C : Cx l G own cc nL nm R P) {x y : Int32} {off : Int} {tgt : Nat} (hd : decode cc pc = .ok (.if_icmp .eq off, 3)) (ht : (pc : Int) + off = (tgt : Int)) (kt : x = y → P k n tgt lv st ws) (kf : ¬ x = y → P k n (pc + 3) lv st ws) : P k n pc lv (.int y :: .int x :: st) ws := by
  obtain ⟨p, e, s, m, args, below, meth, c, A, Q, ⟨hx, hb, hml, hnm, hown, hts, hK, hA⟩, rfl⟩ := C
  intro H locs ls hP hD hS hl
  exact lv_icmp_eq hx hb hd ht (fun h => kt h H locs ls hP hD hS hl) (fun h => kf h H locs ls hP hD hS hl)
theorem st_if_ne (C : Cx l G own cc nL nm R P) {x : Int32} {off : Int} {tgt : Nat} (hd : decode cc pc = .ok (.ifCond .ne off, 3)) (ht : (pc : Int) + off = (tgt : Int)) (kt : ¬ x = 0 → P k n tgt lv st ws) (kf : x = 0 → P k n (pc + 3) lv st ws) : P k n pc lv (.int x :: st) ws := by
  obtain ⟨p, e, s, m, args, below, meth, c, A, Q, ⟨hx, hb, hml, hnm, hown, hts, hK, hA⟩, rfl⟩ := C
  intro H locs ls hP hD hS hl
  exact lv_if_ne hx hb hd ht (fun h => kt h H locs ls hP hD hS hl) (fun h => kf h H locs ls hP hD hS hl)
theorem st_icmp_ne (C : Cx l G own cc nL nm R P) {x y : Int32} {off : Int} {tgt : Nat} (hd : decode cc pc = .ok (.if_icmp .ne off, 3)) (ht : (pc : Int) + off = (tgt : Int)) (kt : ¬ x = y → P k n tgt lv st ws) (kf : x = y → P k n (pc + 3) lv st ws) : P k n pc lv (.int y :: .int x :: st) ws := by
  obtain ⟨p, e, s, m, args, below, meth, c, A, Q, ⟨hx, hb, hml, hnm, hown, hts, hK, hA⟩, rfl⟩ := C
  intro H locs ls hP hD hS hl
  exact lv_icmp_ne hx hb hd ht (fun h => kt h H locs ls hP hD hS hl) (fun h => kf h H locs ls hP hD hS hl)
theorem st_if_lt (C : Cx l G own cc nL nm R P) {x : Int32} {off : Int} {tgt : Nat} (hd : decode cc pc = .ok (.ifCond .lt off, 3)) (ht : (pc : Int) + off = (tgt : Int)) (kt : x < 0 → P k n tgt lv st ws) (kf : ¬ x < 0 → P k n (pc + 3) lv st ws) : P k n pc lv (.int x :: st) ws := by
  obtain ⟨p, e, s, m, args, below, meth, c, A, Q, ⟨hx, hb, hml, hnm, hown, hts, hK, hA⟩, rfl⟩ := C
  intro H locs ls hP hD hS hl
  exact lv_if_lt hx hb hd ht (fun h => kt h H locs ls hP hD hS hl) (fun h => kf h H locs ls hP hD hS hl)
theorem st_icmp_lt (C : Cx l G own cc nL nm R P) {x y : Int32} {off : Int} {tgt : Nat} (hd : decode cc pc = .ok (.if_icmp .lt off, 3)) (ht : (pc : Int) + off = (tgt : Int)) (kt : x < y → P k n tgt lv st ws) (kf : ¬ x < y → P k n (pc + 3) lv st ws) : P k n pc lv (.int y :: .int x :: st) ws := by
  obtain ⟨p, e, s, m, args, below, meth, c, A, Q, ⟨hx, hb, hml, hnm, hown, hts, hK, hA⟩, rfl⟩ := C
  intro H locs ls hP hD hS hl
  exact lv_icmp_lt hx hb hd ht (fun h => kt h H locs ls hP hD hS hl) (fun h => kf h H locs ls hP hD hS hl)
theorem st_if_ge (C : Cx l G own cc nL nm R P) {x : Int32} {off : Int} {tgt : Nat} (hd : decode cc pc = .ok (.ifCond .ge off, 3)) (ht : (pc : Int) + off = (tgt : Int)) (kt : 0 ≤ x → P k n tgt lv st ws) (kf : ¬ 0 ≤ x → P k n (pc + 3) lv st ws) : P k n pc lv (.int x :: st) ws := by
  obtain ⟨p, e, s, m, args, below, meth, c, A, Q, ⟨hx, hb, hml, hnm, hown, hts, hK, hA⟩, rfl⟩ := C
  intro H locs ls hP hD hS hl
  exact lv_if_ge hx hb hd ht (fun h => kt h H locs ls hP hD hS hl) (fun h => kf h H locs ls hP hD hS hl)
theorem st_icmp_ge (C : Cx l G own cc nL nm R P) {x y : Int32} {off : Int} {tgt : Nat} (hd : decode cc pc = .ok (.if_icmp .ge off, 3)) (ht : (pc : Int) + off = (tgt : Int)) (kt : y ≤ x → P k n tgt lv st ws) (kf : ¬ y ≤ x → P k n (pc + 3) lv st ws) : P k n pc lv (.int y :: .int x :: st) ws := by
  obtain ⟨p, e, s, m, args, below, meth, c, A, Q, ⟨hx, hb, hml, hnm, hown, hts, hK, hA⟩, rfl⟩ := C
  intro H locs ls hP hD hS hl
  exact lv_icmp_ge hx hb hd ht (fun h => kt h H locs ls hP hD hS hl) (fun h => kf h H locs ls hP hD hS hl)
theorem st_if_gt (C : Cx l G own cc nL nm R P) {x : Int32} {off : Int} {tgt : Nat} (hd : decode cc pc = .ok (.ifCond .gt off, 3)) (ht : (pc : Int) + off = (tgt : Int)) (kt : 0 < x → P k n tgt lv st ws) (kf : ¬ 0 < x → P k n (pc + 3) lv st ws) : P k n pc lv (.int x :: st) ws := by
  obtain ⟨p, e, s, m, args, below, meth, c, A, Q, ⟨hx, hb, hml, hnm, hown, hts, hK, hA⟩, rfl⟩ := C
  intro H locs ls hP hD hS hl
  exact lv_if_gt hx hb hd ht (fun h => kt h H locs ls hP hD hS hl) (fun h => kf h H locs ls hP hD hS hl)
theorem st_icmp_gt (C : Cx l G own cc nL nm R P) {x y : Int32} {off : Int} {tgt : Nat} (hd : decode cc pc = .ok (.if_icmp .gt off, 3)) (ht : (pc : Int) + off = (tgt : Int)) (kt : y < x → P k n tgt lv st ws) (kf : ¬ y < x → P k n (pc + 3) lv st ws) : P k n pc lv (.int y :: .int x :: st) ws := by
  obtain ⟨p, e, s, m, args, below, meth, c, A, Q, ⟨hx, hb, hml, hnm, hown, hts, hK, hA⟩, rfl⟩ := C
  intro H locs ls hP hD hS hl
  exact lv_icmp_gt hx hb hd ht (fun h => kt h H locs ls hP hD hS hl) (fun h => kf h H locs ls hP hD hS hl)
theorem st_if_le (C : Cx l G own cc nL nm R P) {x : Int32} {off : Int} {tgt : Nat} (hd : decode cc pc = .ok (.ifCond .le off, 3)) (ht : (pc : Int) + off = (tgt : Int)) (kt : x ≤ 0 → P k n tgt lv st ws) (kf : ¬ x ≤ 0 → P k n (pc + 3) lv st ws) : P k n pc lv (.int x :: st) ws := by
  obtain ⟨p, e, s, m, args, below, meth, c, A, Q, ⟨hx, hb, hml, hnm, hown, hts, hK, hA⟩, rfl⟩ := C
  intro H locs ls hP hD hS hl
  exact lv_if_le hx hb hd ht (fun h => kt h H locs ls hP hD hS hl) (fun h => kf h H locs ls hP hD hS hl)
theorem st_icmp_le (C : Cx l G own cc nL nm R P) {x y : Int32} {off : Int} {tgt : Nat} (hd : decode cc pc = .ok (.if_icmp .le off, 3)) (ht : (pc : Int) + off = (tgt : Int)) (kt : x ≤ y → P k n tgt lv st ws) (kf : ¬ x ≤ y → P k n (pc + 3) lv st ws) : P k n pc lv (.int y :: .int x :: st) ws := by
  obtain ⟨p, e, s, m, args, below, meth, c, A, Q, ⟨hx, hb, hml, hnm, hown, hts, hK, hA⟩, rfl⟩ := C
  intro H locs ls hP hD hS hl
  exact lv_icmp_le hx hb hd ht (fun h => kt h H locs ls hP hD hS hl) (fun h => kf h H locs ls hP hD hS hl)
theorem st_ifnull (C : Cx l G own cc nL nm R P) {x : Nat} {off : Int} (hd : decode cc pc = .ok (.ifnull off, 3)) (kk : P k n (pc + 3) lv st ws) : P k n pc lv (.ref x :: st) ws := by
  obtain ⟨p, e, s, m, args, below, meth, c, A, Q, ⟨hx, hb, hml, hnm, hown, hts, hK, hA⟩, rfl⟩ := C
  intro H locs ls hP hD hS hl
  exact lv_ifnull hx hb hd (kk H locs ls hP hD hS hl)
theorem st_ifnonnull (C : Cx l G own cc nL nm R P) {x : Nat} {off : Int} {tgt : Nat} (hd : decode cc pc = .ok (.ifnonnull off, 3)) (ht : (pc : Int) + off = (tgt : Int)) (kk : P k n tgt lv st ws) : P k n pc lv (.ref x :: st) ws := by
  obtain ⟨p, e, s, m, args, below, meth, c, A, Q, ⟨hx, hb, hml, hnm, hown, hts, hK, hA⟩, rfl⟩ := C
  intro H locs ls hP hD hS hl
  exact lv_ifnonnull hx hb hd ht (kk H locs ls hP hD hS hl)
theorem st_tswIn (C : Cx l G own cc nL nm R P) {dflt lo hi : Int} {offs : Array Int} {len : Nat} {x : Int32} {off : Int} {tgt : Nat} (hd : decode cc pc = .ok (.tableswitch dflt lo hi offs, len)) (h1 : ¬ x.toInt < lo) (h2 : ¬ hi < x.toInt) (ho : offs[(x.toInt - lo).toNat]? = some off) (ht : (pc : Int) + off = (tgt : Int)) (kk : P k n tgt lv st ws) : P k n pc lv (.int x :: st) ws := by
  obtain ⟨p, e, s, m, args, below, meth, c, A, Q, ⟨hx, hb, hml, hnm, hown, hts, hK, hA⟩, rfl⟩ := C
  intro H locs ls hP hD hS hl
  exact lv_tableIn hx hb hd h1 h2 ho ht (kk H locs ls hP hD hS hl)
theorem st_tswOut (C : Cx l G own cc nL nm R P) {dflt lo hi : Int} {offs : Array Int} {len : Nat} {x : Int32} {tgt : Nat} (hd : decode cc pc = .ok (.tableswitch dflt lo hi offs, len)) (h : x.toInt < lo ∨ hi < x.toInt) (ht : (pc : Int) + dflt = (tgt : Int)) (kk : P k n tgt lv st ws) : P k n pc lv (.int x :: st) ws := by
  obtain ⟨p, e, s, m, args, below, meth, c, A, Q, ⟨hx, hb, hml, hnm, hown, hts, hK, hA⟩, rfl⟩ := C
  intro H locs ls hP hD hS hl
  exact lv_tableOut hx hb hd h ht (kk H locs ls hP hD hS hl)
theorem st_ldc2 (C : Cx l G own cc nL nm R P) {index : Nat} {v : Int64} (hd : decode cc pc = .ok (.ldc2_w index, 3)) (hw : Cond.constantLong own index v ∈ WS) (kk : P k n (pc + 3) lv (.long v :: st) ws) : P k n pc lv st ws := by
  obtain ⟨p, e, s, m, args, below, meth, c, A, Q, ⟨hx, hb, hml, hnm, hown, hts, hK, hA⟩, rfl⟩ := C
  intro H locs ls hP hD hS hl
  exact lv_ldc2 hx hb hown (hts _ hw) hd (kk H locs ls hP hD hS hl)
theorem st_ldc2d (C : Cx l G own cc nL nm R P) {index : Nat} {v : UInt64} (hd : decode cc pc = .ok (.ldc2_w index, 3)) (hw : Cond.constantDouble own index v ∈ WS) (kk : P k n (pc + 3) lv (.double v :: st) ws) : P k n pc lv st ws := by
  obtain ⟨p, e, s, m, args, below, meth, c, A, Q, ⟨hx, hb, hml, hnm, hown, hts, hK, hA⟩, rfl⟩ := C
  intro H locs ls hP hD hS hl
  exact lv_ldc2d hx hb hown (hts _ hw) hd (kk H locs ls hP hD hS hl)
/-- fewer locals, by their places -/
theorem st_lv (C : Cx l G own cc nL nm R P) (ks : List Nat) {lv' : List (Nat × Value)} (hl' : lv_pick lv ks = lv') (kk : P k n pc lv' st ws) : P k n pc lv st ws := by
  obtain ⟨p, e, s, m, args, below, meth, c, A, Q, ⟨hx, hb, hml, hnm, hown, hts, hK, hA⟩, rfl⟩ := C
  intro H locs ls hP hD hS hl
  exact kk H locs ls hP hD hS (lv_sub hl ks hl')
/-- more room -/
theorem st_wide (C : Cx l G own cc nL nm R P) {k' n' : Nat} (h1 : k ≤ k') (h2 : n ≤ n') (kk : P k' n' pc lv st ws) : P k n pc lv st ws := by
  obtain ⟨p, e, s, m, args, below, meth, c, A, Q, ⟨hx, hb, hml, hnm, hown, hts, hK, hA⟩, rfl⟩ := C
  intro H locs ls hP hD hS hl
  exact W.widen h1 h2 (kk H locs ls hP hD hS hl)
/-- a field's row: own's pool entry idx names the field kf of the class ci -/
def FL (own : String) (idx ci kf : Nat) : Prop := ∃ (Cn : String) (T : u_T) (N : Nat), vwCl[ci]? = some (Cn, T, N) ∧ kf < N ∧ (Cond.fieldLink own idx (T kf).1 (T kf).2.1 (T kf).2.2.1 ∈ WS ∨ ∃ host, Cond.fieldLinkNest own idx (T kf).1 (T kf).2.1 (T kf).2.2.1 host ∈ tables_1) ∧ (∀ w ∈ u_ws Cn T N, w ∈ WS)
/-- what a class's table says: names apart, types -/
def FC (ci : Nat) (ty0 : Nat → FieldType) : Prop := ∃ (Cn : String) (T : u_T) (N : Nat), vwCl[ci]? = some (Cn, T, N) ∧ (∀ k, k < N → parseFieldDescriptor (T k).2.2.1 = some (ty0 k)) ∧ (∀ a, a < N → ∀ b, b < N → a ≠ b → (T a).2.1 ≠ (T b).2.1)
def FW (ci kf : Nat) (fin : Bool) : Prop := ∃ (Cn : String) (T : u_T) (N : Nat), vwCl[ci]? = some (Cn, T, N) ∧ (T kf).2.2.2 = fin
theorem st_get (C : Cx l G own cc nL nm R P) {idx ci kf a : Nat} {fs : List Value} {v : Value} (hf : FL own idx ci kf) (hd : decode cc pc = .ok (.getfield idx, 3)) (q0 : Nat) (he : ws[q0]? = some (a, .inr (ci, fs))) (hv : fs[kf]? = some v) (kk : P k n (pc + 3) lv (v :: st) ws) : P k n pc lv (.ref a :: st) ws := by
  obtain ⟨p, e, s, m, args, below, meth, c, A, Q, ⟨hx, hb, hml, hnm, hown, hts, hK, hA⟩, rfl⟩ := C
  intro H locs ls hP hD hS hl
  obtain ⟨Cn, T, N, hc, hk, hlk, hin⟩ := hf
  rcases hlk with h1 | ⟨host, h1⟩
  · exact va_get hx hb hts hin hown hK.1 hP q0 he hc kf hk (hts _ h1) (fun _ h => h) hv hd (kk H locs ls hP hD hS hl)
  · exact va_getN hx hb hts hin hown hK.1 hP q0 he hc kf hk (va_Nw.use rfl (hK.2 _ h1 rfl)) (fun _ h => h) hv hd (kk H locs ls hP hD hS hl)
theorem st_put (C : Cx l G own cc nL nm R P) {idx ci kf a : Nat} {ty0 : Nat → FieldType} {fs : List Value} {v : Value} (hf : FL own idx ci kf) (hC : FC ci ty0) (hW : FW ci kf false) (hd : decode cc pc = .ok (.putfield idx, 3)) (q0 : Nat) (he : ws[q0]? = some (a, .inr (ci, fs))) (hn : narrow (ty0 kf) v = v) (hfit : fits (ty0 kf) v = true) (hlen : kf < fs.length) (kk : P k n (pc + 3) lv st (ws.set q0 (a, .inr (ci, fs.set kf v)))) : P k n pc lv (v :: .ref a :: st) ws := by
  obtain ⟨p, e, s, m, args, below, meth, c, A, Q, ⟨hx, hb, hml, hnm, hown, hts, hK, hA⟩, rfl⟩ := C
  intro H locs ls hP hD hS hl
  obtain ⟨Cn, T, N, hc, hk, hlk, hin⟩ := hf
  obtain ⟨Cn1, T1, N1, hc1, hty, hnm1⟩ := hC
  obtain ⟨Cn2, T2, N2, hc2, hfin⟩ := hW
  cases hc.symm.trans hc1
  cases hc.symm.trans hc2
  rcases hlk with h1 | ⟨host, h1⟩
  · exact va_put hx hb hts hin ty0 hty hnm1 hown hK.1 hP hD hS q0 he hc kf hk (hts _ h1) (fun _ h => h) hfin (hty kf hk) hn hfit hlen hd (fun H1 locs1 hP1 hD1 hS1 => kk H1 locs1 ls hP1 hD1 hS1 hl)
  · exact va_putN hx hb hts hin ty0 hty hnm1 hown hK.1 hP hD hS q0 he hc kf hk (va_Nw.use rfl (hK.2 _ h1 rfl)) (fun _ h => h) hfin (hty kf hk) hn hfit hlen hd (fun H1 locs1 hP1 hD1 hS1 => kk H1 locs1 ls hP1 hD1 hS1 hl)
theorem st_putF (C : Cx l G own cc nL "<init>" R P) {idx ci kf a : Nat} {ty0 : Nat → FieldType} {fs : List Value} {v : Value} (hf : ∃ (Cn : String) (T : u_T) (N : Nat), vwCl[ci]? = some (Cn, T, N) ∧ kf < N ∧ Cond.fieldLink own idx (T kf).1 (T kf).2.1 (T kf).2.2.1 ∈ WS ∧ (∀ w ∈ u_ws Cn T N, w ∈ WS) ∧ (T kf).1 = own) (hC : FC ci ty0) (hW : FW ci kf true) (hd : decode cc pc = .ok (.putfield idx, 3)) (q0 : Nat) (he : ws[q0]? = some (a, .inr (ci, fs))) (hn : narrow (ty0 kf) v = v) (hfit : fits (ty0 kf) v = true) (hlen : kf < fs.length) (kk : P k n (pc + 3) lv st (ws.set q0 (a, .inr (ci, fs.set kf v)))) : P k n pc lv (v :: .ref a :: st) ws := by
  obtain ⟨p, e, s, m, args, below, meth, c, A, Q, ⟨hx, hb, hml, hnm, hown, hts, hK, hA⟩, rfl⟩ := C
  intro H locs ls hP hD hS hl
  obtain ⟨Cn, T, N, hc, hk, h1, hin, hdecl⟩ := hf
  obtain ⟨Cn1, T1, N1, hc1, hty, hnm1⟩ := hC
  obtain ⟨Cn2, T2, N2, hc2, hfin⟩ := hW
  cases hc.symm.trans hc1
  cases hc.symm.trans hc2
  exact va_putF hx hb hts hin ty0 hty hnm1 hown hK.1 hP hD hS q0 he hc kf hk (hts _ h1) (fun _ h => h) hfin hnm hdecl (hty kf hk) hn hfit hlen hd (fun H1 locs1 hP1 hD1 hS1 => kk H1 locs1 ls hP1 hD1 hS1 hl)
theorem st_iald (C : Cx l G own cc nL nm R P) {a N : Nat} {f : Nat → Int32} {i : Int32} (hd : decode cc pc = .ok (.iaload, 1)) (q0 : Nat) (he : ws[q0]? = some (a, aI G N f)) (hin : vp_in i N) (kk : P k n (pc + 1) lv (.int (f i.toNatClampNeg) :: st) ws) : P k n pc lv (.int i :: .ref a :: st) ws := by
  obtain ⟨p, e, s, m, args, below, meth, c, A, Q, ⟨hx, hb, hml, hnm, hown, hts, hK, hA⟩, rfl⟩ := C
  intro H locs ls hP hD hS hl
  exact va_iald hx hb hK.1 hP q0 0 he rfl hin hd (kk H locs ls hP hD hS hl)
theorem st_iast (C : Cx l G own cc nL nm R P) {a N : Nat} {f : Nat → Int32} {i x : Int32} (hd : decode cc pc = .ok (.iastore, 1)) (q0 : Nat) (he : ws[q0]? = some (a, aI G N f)) (hin : vp_in i N) (kk : P k n (pc + 1) lv st (ws.set q0 (a, aI G N (upd f i.toNatClampNeg x)))) : P k n pc lv (.int x :: .int i :: .ref a :: st) ws := by
  obtain ⟨p, e, s, m, args, below, meth, c, A, Q, ⟨hx, hb, hml, hnm, hown, hts, hK, hA⟩, rfl⟩ := C
  intro H locs ls hP hD hS hl
  exact va_iast hx hb hK.1 hP hD hS q0 0 he rfl hin hd (fun H1 locs1 hP1 hD1 hS1 => kk H1 locs1 ls hP1 hD1 hS1 hl)
theorem st_lald (C : Cx l G own cc nL nm R P) {a N : Nat} {f : Nat → Int64} {i : Int32} (hd : decode cc pc = .ok (.laload, 1)) (q0 : Nat) (he : ws[q0]? = some (a, aJ G N f)) (hin : vp_in i N) (kk : P k n (pc + 1) lv (.long (f i.toNatClampNeg) :: st) ws) : P k n pc lv (.int i :: .ref a :: st) ws := by
  obtain ⟨p, e, s, m, args, below, meth, c, A, Q, ⟨hx, hb, hml, hnm, hown, hts, hK, hA⟩, rfl⟩ := C
  intro H locs ls hP hD hS hl
  exact va_lald hx hb hK.1 hP q0 1 he rfl hin hd (kk H locs ls hP hD hS hl)
theorem st_last (C : Cx l G own cc nL nm R P) {a N : Nat} {f : Nat → Int64} {i : Int32} {x : Int64} (hd : decode cc pc = .ok (.lastore, 1)) (q0 : Nat) (he : ws[q0]? = some (a, aJ G N f)) (hin : vp_in i N) (kk : P k n (pc + 1) lv st (ws.set q0 (a, aJ G N (vp_updL f i.toNatClampNeg x)))) : P k n pc lv (.long x :: .int i :: .ref a :: st) ws := by
  obtain ⟨p, e, s, m, args, below, meth, c, A, Q, ⟨hx, hb, hml, hnm, hown, hts, hK, hA⟩, rfl⟩ := C
  intro H locs ls hP hD hS hl
  exact va_last hx hb hK.1 hP hD hS q0 1 he rfl hin hd (fun H1 locs1 hP1 hD1 hS1 => kk H1 locs1 ls hP1 hD1 hS1 hl)
theorem st_aald (C : Cx l G own cc nL nm R P) {a N b : Nat} {f : Nat → Option Nat} {i : Int32} (hd : decode cc pc = .ok (.aaload, 1)) (q0 : Nat) (he : ws[q0]? = some (a, aQ G N f)) (hin : vp_in i N) (hb9 : f i.toNatClampNeg = some b) (kk : P k n (pc + 1) lv (.ref b :: st) ws) : P k n pc lv (.int i :: .ref a :: st) ws := by
  obtain ⟨p, e, s, m, args, below, meth, c, A, Q, ⟨hx, hb, hml, hnm, hown, hts, hK, hA⟩, rfl⟩ := C
  intro H locs ls hP hD hS hl
  exact va_aldq hx hb hK.1 hP q0 2 he rfl hin hd (by rw [hb9]; exact kk H locs ls hP hD hS hl)
theorem st_alenI (C : Cx l G own cc nL nm R P) {a N : Nat} {f : Nat → Int32} {v : Int32} (hd : decode cc pc = .ok (.arraylength, 1)) (q0 : Nat) (he : ws[q0]? = some (a, aI G N f)) (hv : Int32.ofNat N = v) (kk : P k n (pc + 1) lv (.int v :: st) ws) : P k n pc lv (.ref a :: st) ws := by
  obtain ⟨p, e, s, m, args, below, meth, c, A, Q, ⟨hx, hb, hml, hnm, hown, hts, hK, hA⟩, rfl⟩ := C
  intro H locs ls hP hD hS hl
  exact va_alen hx hb hK.1 hP q0 0 he rfl hv hd (kk H locs ls hP hD hS hl)
theorem st_alenJ (C : Cx l G own cc nL nm R P) {a N : Nat} {f : Nat → Int64} {v : Int32} (hd : decode cc pc = .ok (.arraylength, 1)) (q0 : Nat) (he : ws[q0]? = some (a, aJ G N f)) (hv : Int32.ofNat N = v) (kk : P k n (pc + 1) lv (.int v :: st) ws) : P k n pc lv (.ref a :: st) ws := by
  obtain ⟨p, e, s, m, args, below, meth, c, A, Q, ⟨hx, hb, hml, hnm, hown, hts, hK, hA⟩, rfl⟩ := C
  intro H locs ls hP hD hS hl
  exact va_alen hx hb hK.1 hP q0 1 he rfl hv hd (kk H locs ls hP hD hS hl)
end Steps
