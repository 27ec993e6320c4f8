section SIMP
variable {p : Program} {l : Launch} {e : Env} {R : Room} {s : State} {m : MethodId} {args : Array Value} {below : List Frame} {meth : Method} {c : Code} {H : Heap} {locs : List Loc} {cells slots : Nat} {Q : State → Prop}
variable {cc : ByteArray} {pc : Nat} {ls : Array Slot}
variable {D : va_G} {cA : Nat → ClassId} {base : Nat} {tt : Nat → Nat} {nL MC MS : Nat} {Sf S S' : List Sh} {M M' : Mem} {mls mls' : Lv} {mst mst' : List Vv} {pc' : Nat}
theorem sp_iadd (hx : p.tables.exec = Jvm.exec) (hb : c.code = cc) (hH : HI D cA base tt s MC MS Sf S M H locs cells slots) (hL : LR (ph base tt) nL mls ls) (hst : ∀ v ∈ mst, okV v) (hd : decode cc pc = .ok (.iadd, 1)) (ha : bI (pc + 1) mls mst S M (fun x y => some (x + y)) = some (.inl (pc', mls', mst', S', M'))) (K : KK p l e R s m args below meth c Q D cA base tt nL MC MS Sf pc' mls' mst' S' M') : W p l e R s m args below meth c H locs cells slots Q (F0 m pc ls (mst.map (rv (ph base tt)))) := by
  obtain ⟨x, y, z, rest, rfl, hz, hr, rfl, rfl, rfl, rfl, rfl⟩ := bI_inj ha
  cases hz
  have K1 := K H locs cells slots ls hH hL (ok1 (okt (okt hst)) hr)
  simp only [List.map_cons, rv, Int32.ofInt_add] at K1 ⊢
  exact lv_iadd hx hb hd K1
theorem sp_isub (hx : p.tables.exec = Jvm.exec) (hb : c.code = cc) (hH : HI D cA base tt s MC MS Sf S M H locs cells slots) (hL : LR (ph base tt) nL mls ls) (hst : ∀ v ∈ mst, okV v) (hd : decode cc pc = .ok (.isub, 1)) (ha : bI (pc + 1) mls mst S M (fun x y => some (x - y)) = some (.inl (pc', mls', mst', S', M'))) (K : KK p l e R s m args below meth c Q D cA base tt nL MC MS Sf pc' mls' mst' S' M') : W p l e R s m args below meth c H locs cells slots Q (F0 m pc ls (mst.map (rv (ph base tt)))) := by
  obtain ⟨x, y, z, rest, rfl, hz, hr, rfl, rfl, rfl, rfl, rfl⟩ := bI_inj ha
  cases hz
  have K1 := K H locs cells slots ls hH hL (ok1 (okt (okt hst)) hr)
  simp only [List.map_cons, rv, Int32.ofInt_sub] at K1 ⊢
  exact lv_isub hx hb hd K1
theorem sp_imul (hx : p.tables.exec = Jvm.exec) (hb : c.code = cc) (hH : HI D cA base tt s MC MS Sf S M H locs cells slots) (hL : LR (ph base tt) nL mls ls) (hst : ∀ v ∈ mst, okV v) (hd : decode cc pc = .ok (.imul, 1)) (ha : bI (pc + 1) mls mst S M (fun x y => some (x * y)) = some (.inl (pc', mls', mst', S', M'))) (K : KK p l e R s m args below meth c Q D cA base tt nL MC MS Sf pc' mls' mst' S' M') : W p l e R s m args below meth c H locs cells slots Q (F0 m pc ls (mst.map (rv (ph base tt)))) := by
  obtain ⟨x, y, z, rest, rfl, hz, hr, rfl, rfl, rfl, rfl, rfl⟩ := bI_inj ha
  cases hz
  have K1 := K H locs cells slots ls hH hL (ok1 (okt (okt hst)) hr)
  simp only [List.map_cons, rv, Int32.ofInt_mul] at K1 ⊢
  exact lv_imul hx hb hd K1
theorem sp_idiv (hx : p.tables.exec = Jvm.exec) (hb : c.code = cc) (hH : HI D cA base tt s MC MS Sf S M H locs cells slots) (hL : LR (ph base tt) nL mls ls) (hst : ∀ v ∈ mst, okV v) (hd : decode cc pc = .ok (.idiv, 1)) (ha : bI (pc + 1) mls mst S M (fun x y => if y = 0 then none else some (x.tdiv y)) = some (.inl (pc', mls', mst', S', M'))) (K : KK p l e R s m args below meth c Q D cA base tt nL MC MS Sf pc' mls' mst' S' M') : W p l e R s m args below meth c H locs cells slots Q (F0 m pc ls (mst.map (rv (ph base tt)))) := by
  obtain ⟨x, y, z, rest, rfl, hz, hr, rfl, rfl, rfl, rfl, rfl⟩ := bI_inj ha
  split at hz
  · cases hz
  · next h0 =>
    cases hz
    have hy : inR y := okh hst
    have hx' : inR x := okh (okt hst)
    have K1 := K H locs cells slots ls hH hL (ok1 (okt (okt hst)) hr)
    simp only [List.map_cons, rv] at K1 ⊢
    rw [← i32_div hx' hy] at K1
    exact lv_idiv hx hb hd (fun q => h0 ((i32_eq hy inR_0).mp q)) K1
theorem sp_irem (hx : p.tables.exec = Jvm.exec) (hb : c.code = cc) (hH : HI D cA base tt s MC MS Sf S M H locs cells slots) (hL : LR (ph base tt) nL mls ls) (hst : ∀ v ∈ mst, okV v) (hd : decode cc pc = .ok (.irem, 1)) (ha : bI (pc + 1) mls mst S M (fun x y => if y = 0 then none else some (x.tmod y)) = some (.inl (pc', mls', mst', S', M'))) (K : KK p l e R s m args below meth c Q D cA base tt nL MC MS Sf pc' mls' mst' S' M') : W p l e R s m args below meth c H locs cells slots Q (F0 m pc ls (mst.map (rv (ph base tt)))) := by
  obtain ⟨x, y, z, rest, rfl, hz, hr, rfl, rfl, rfl, rfl, rfl⟩ := bI_inj ha
  split at hz
  · cases hz
  · next h0 =>
    cases hz
    have hy : inR y := okh hst
    have hx' : inR x := okh (okt hst)
    have K1 := K H locs cells slots ls hH hL (ok1 (okt (okt hst)) hr)
    simp only [List.map_cons, rv] at K1 ⊢
    rw [← i32_rem hx' hy] at K1
    exact lv_irem hx hb hd (fun q => h0 ((i32_eq hy inR_0).mp q)) K1
theorem sp_ldiv (hx : p.tables.exec = Jvm.exec) (hb : c.code = cc) (hH : HI D cA base tt s MC MS Sf S M H locs cells slots) (hL : LR (ph base tt) nL mls ls) (hst : ∀ v ∈ mst, okV v) (hd : decode cc pc = .ok (.ldiv, 1)) (ha : bL (pc + 1) mls mst S M (fun x y => if y = 0 then none else some (x.tdiv y)) = some (.inl (pc', mls', mst', S', M'))) (K : KK p l e R s m args below meth c Q D cA base tt nL MC MS Sf pc' mls' mst' S' M') : W p l e R s m args below meth c H locs cells slots Q (F0 m pc ls (mst.map (rv (ph base tt)))) := by
  obtain ⟨x, y, z, rest, rfl, hz, hr, rfl, rfl, rfl, rfl, rfl⟩ := bL_inj ha
  split at hz
  · cases hz
  · next h0 =>
    cases hz
    have hy : inL y := okh hst
    have hx' : inL x := okh (okt hst)
    have K1 := K H locs cells slots ls hH hL (ok1 (okt (okt hst)) hr)
    simp only [List.map_cons, rv] at K1 ⊢
    rw [← i64_div hx' hy] at K1
    exact lv_ldiv hx hb hd (fun q => h0 ((i64_eq hy inL_0).mp q)) K1
theorem sp_lrem (hx : p.tables.exec = Jvm.exec) (hb : c.code = cc) (hH : HI D cA base tt s MC MS Sf S M H locs cells slots) (hL : LR (ph base tt) nL mls ls) (hst : ∀ v ∈ mst, okV v) (hd : decode cc pc = .ok (.lrem, 1)) (ha : bL (pc + 1) mls mst S M (fun x y => if y = 0 then none else some (x.tmod y)) = some (.inl (pc', mls', mst', S', M'))) (K : KK p l e R s m args below meth c Q D cA base tt nL MC MS Sf pc' mls' mst' S' M') : W p l e R s m args below meth c H locs cells slots Q (F0 m pc ls (mst.map (rv (ph base tt)))) := by
  obtain ⟨x, y, z, rest, rfl, hz, hr, rfl, rfl, rfl, rfl, rfl⟩ := bL_inj ha
  split at hz
  · cases hz
  · next h0 =>
    cases hz
    have hy : inL y := okh hst
    have hx' : inL x := okh (okt hst)
    have K1 := K H locs cells slots ls hH hL (ok1 (okt (okt hst)) hr)
    simp only [List.map_cons, rv] at K1 ⊢
    rw [← i64_rem hx' hy] at K1
    exact lv_lrem hx hb hd (fun q => h0 ((i64_eq hy inL_0).mp q)) K1
theorem sp_ladd (hx : p.tables.exec = Jvm.exec) (hb : c.code = cc) (hH : HI D cA base tt s MC MS Sf S M H locs cells slots) (hL : LR (ph base tt) nL mls ls) (hst : ∀ v ∈ mst, okV v) (hd : decode cc pc = .ok (.ladd, 1)) (ha : bL (pc + 1) mls mst S M (fun x y => some (x + y)) = some (.inl (pc', mls', mst', S', M'))) (K : KK p l e R s m args below meth c Q D cA base tt nL MC MS Sf pc' mls' mst' S' M') : W p l e R s m args below meth c H locs cells slots Q (F0 m pc ls (mst.map (rv (ph base tt)))) := by
  obtain ⟨x, y, z, rest, rfl, hz, hr, rfl, rfl, rfl, rfl, rfl⟩ := bL_inj ha
  cases hz
  have K1 := K H locs cells slots ls hH hL (ok1 (okt (okt hst)) hr)
  simp only [List.map_cons, rv, Int64.ofInt_add] at K1 ⊢
  exact lv_ladd hx hb hd K1
theorem sp_lmul (hx : p.tables.exec = Jvm.exec) (hb : c.code = cc) (hH : HI D cA base tt s MC MS Sf S M H locs cells slots) (hL : LR (ph base tt) nL mls ls) (hst : ∀ v ∈ mst, okV v) (hd : decode cc pc = .ok (.lmul, 1)) (ha : bL (pc + 1) mls mst S M (fun x y => some (x * y)) = some (.inl (pc', mls', mst', S', M'))) (K : KK p l e R s m args below meth c Q D cA base tt nL MC MS Sf pc' mls' mst' S' M') : W p l e R s m args below meth c H locs cells slots Q (F0 m pc ls (mst.map (rv (ph base tt)))) := by
  obtain ⟨x, y, z, rest, rfl, hz, hr, rfl, rfl, rfl, rfl, rfl⟩ := bL_inj ha
  cases hz
  have K1 := K H locs cells slots ls hH hL (ok1 (okt (okt hst)) hr)
  simp only [List.map_cons, rv, Int64.ofInt_mul] at K1 ⊢
  exact lv_lmul hx hb hd K1
theorem sp_iand (hx : p.tables.exec = Jvm.exec) (hb : c.code = cc) (hH : HI D cA base tt s MC MS Sf S M H locs cells slots) (hL : LR (ph base tt) nL mls ls) (hst : ∀ v ∈ mst, okV v) (hd : decode cc pc = .ok (.iand, 1)) (ha : bI (pc + 1) mls mst S M (fun x y => some (Int32.ofInt x &&& Int32.ofInt y).toInt) = some (.inl (pc', mls', mst', S', M'))) (K : KK p l e R s m args below meth c Q D cA base tt nL MC MS Sf pc' mls' mst' S' M') : W p l e R s m args below meth c H locs cells slots Q (F0 m pc ls (mst.map (rv (ph base tt)))) := by
  obtain ⟨x, y, z, rest, rfl, hz, hr, rfl, rfl, rfl, rfl, rfl⟩ := bI_inj ha
  cases hz
  have K1 := K H locs cells slots ls hH hL (ok1 (okt (okt hst)) hr)
  simp only [List.map_cons, rv, Int32.ofInt_toInt] at K1 ⊢
  exact lv_iand hx hb hd K1
theorem sp_ishl (hx : p.tables.exec = Jvm.exec) (hb : c.code = cc) (hH : HI D cA base tt s MC MS Sf S M H locs cells slots) (hL : LR (ph base tt) nL mls ls) (hst : ∀ v ∈ mst, okV v) (hd : decode cc pc = .ok (.ishl, 1)) (ha : bI (pc + 1) mls mst S M (fun x y => some (Int32.ofInt x <<< (Int32.ofInt y &&& 31)).toInt) = some (.inl (pc', mls', mst', S', M'))) (K : KK p l e R s m args below meth c Q D cA base tt nL MC MS Sf pc' mls' mst' S' M') : W p l e R s m args below meth c H locs cells slots Q (F0 m pc ls (mst.map (rv (ph base tt)))) := by
  obtain ⟨x, y, z, rest, rfl, hz, hr, rfl, rfl, rfl, rfl, rfl⟩ := bI_inj ha
  cases hz
  have K1 := K H locs cells slots ls hH hL (ok1 (okt (okt hst)) hr)
  simp only [List.map_cons, rv, Int32.ofInt_toInt] at K1 ⊢
  exact lv_ishl hx hb hd K1
theorem sp_ishr (hx : p.tables.exec = Jvm.exec) (hb : c.code = cc) (hH : HI D cA base tt s MC MS Sf S M H locs cells slots) (hL : LR (ph base tt) nL mls ls) (hst : ∀ v ∈ mst, okV v) (hd : decode cc pc = .ok (.ishr, 1)) (ha : bI (pc + 1) mls mst S M (fun x y => some (Int32.ofInt x >>> (Int32.ofInt y &&& 31)).toInt) = some (.inl (pc', mls', mst', S', M'))) (K : KK p l e R s m args below meth c Q D cA base tt nL MC MS Sf pc' mls' mst' S' M') : W p l e R s m args below meth c H locs cells slots Q (F0 m pc ls (mst.map (rv (ph base tt)))) := by
  obtain ⟨x, y, z, rest, rfl, hz, hr, rfl, rfl, rfl, rfl, rfl⟩ := bI_inj ha
  cases hz
  have K1 := K H locs cells slots ls hH hL (ok1 (okt (okt hst)) hr)
  simp only [List.map_cons, rv, Int32.ofInt_toInt] at K1 ⊢
  exact lv_ishr hx hb hd K1
theorem sp_ineg (hx : p.tables.exec = Jvm.exec) (hb : c.code = cc) (hH : HI D cA base tt s MC MS Sf S M H locs cells slots) (hL : LR (ph base tt) nL mls ls) (hst : ∀ v ∈ mst, okV v) (hd : decode cc pc = .ok (.ineg, 1)) (ha : uI (pc + 1) mls mst S M (fun x => -x) = some (.inl (pc', mls', mst', S', M'))) (K : KK p l e R s m args below meth c Q D cA base tt nL MC MS Sf pc' mls' mst' S' M') : W p l e R s m args below meth c H locs cells slots Q (F0 m pc ls (mst.map (rv (ph base tt)))) := by
  obtain ⟨x, rest, rfl, hr, rfl, rfl, rfl, rfl, rfl⟩ := uI_inj ha
  have K1 := K H locs cells slots ls hH hL (ok1 (okt hst) hr)
  simp only [List.map_cons, rv, Int32.ofInt_neg] at K1 ⊢
  exact lv_ineg hx hb hd K1
theorem sp_i2b (hx : p.tables.exec = Jvm.exec) (hb : c.code = cc) (hH : HI D cA base tt s MC MS Sf S M H locs cells slots) (hL : LR (ph base tt) nL mls ls) (hst : ∀ v ∈ mst, okV v) (hd : decode cc pc = .ok (.i2b, 1)) (ha : uI (pc + 1) mls mst S M (fun x => (Int32.ofInt x).toInt8.toInt32.toInt) = some (.inl (pc', mls', mst', S', M'))) (K : KK p l e R s m args below meth c Q D cA base tt nL MC MS Sf pc' mls' mst' S' M') : W p l e R s m args below meth c H locs cells slots Q (F0 m pc ls (mst.map (rv (ph base tt)))) := by
  obtain ⟨x, rest, rfl, hr, rfl, rfl, rfl, rfl, rfl⟩ := uI_inj ha
  have K1 := K H locs cells slots ls hH hL (ok1 (okt hst) hr)
  simp only [List.map_cons, rv, Int32.ofInt_toInt] at K1 ⊢
  exact lv_i2b hx hb hd rfl K1
theorem sp_i2s (hx : p.tables.exec = Jvm.exec) (hb : c.code = cc) (hH : HI D cA base tt s MC MS Sf S M H locs cells slots) (hL : LR (ph base tt) nL mls ls) (hst : ∀ v ∈ mst, okV v) (hd : decode cc pc = .ok (.i2s, 1)) (ha : uI (pc + 1) mls mst S M (fun x => (Int32.ofInt x).toInt16.toInt32.toInt) = some (.inl (pc', mls', mst', S', M'))) (K : KK p l e R s m args below meth c Q D cA base tt nL MC MS Sf pc' mls' mst' S' M') : W p l e R s m args below meth c H locs cells slots Q (F0 m pc ls (mst.map (rv (ph base tt)))) := by
  obtain ⟨x, rest, rfl, hr, rfl, rfl, rfl, rfl, rfl⟩ := uI_inj ha
  have K1 := K H locs cells slots ls hH hL (ok1 (okt hst) hr)
  simp only [List.map_cons, rv, Int32.ofInt_toInt] at K1 ⊢
  exact lv_i2s hx hb hd rfl K1
theorem sp_i2l (hx : p.tables.exec = Jvm.exec) (hb : c.code = cc) (hH : HI D cA base tt s MC MS Sf S M H locs cells slots) (hL : LR (ph base tt) nL mls ls) (hst : ∀ v ∈ mst, okV v) (hd : decode cc pc = .ok (.i2l, 1)) (ha : aI2l pc mls mst S M = some (.inl (pc', mls', mst', S', M'))) (K : KK p l e R s m args below meth c Q D cA base tt nL MC MS Sf pc' mls' mst' S' M') : W p l e R s m args below meth c H locs cells slots Q (F0 m pc ls (mst.map (rv (ph base tt)))) := by
  unfold aI2l at ha
  split at ha
  · next x rest =>
    obtain ⟨rfl, rfl, rfl, rfl, rfl⟩ := go_inj ha
    have hr : inR x := okh hst
    exact lv_i2l hx hb hd (Int64.toInt.inj (by rw [Int32.toInt_toInt64, i32_of hr, i64_of (inL_R hr)])) (K H locs cells slots ls hH hL (ok1 (okt hst) (inL_R hr)))
  · cases ha
theorem sp_l2i (hx : p.tables.exec = Jvm.exec) (hb : c.code = cc) (hH : HI D cA base tt s MC MS Sf S M H locs cells slots) (hL : LR (ph base tt) nL mls ls) (hst : ∀ v ∈ mst, okV v) (hd : decode cc pc = .ok (.l2i, 1)) (ha : aL2i pc mls mst S M = some (.inl (pc', mls', mst', S', M'))) (K : KK p l e R s m args below meth c Q D cA base tt nL MC MS Sf pc' mls' mst' S' M') : W p l e R s m args below meth c H locs cells slots Q (F0 m pc ls (mst.map (rv (ph base tt)))) := by
  unfold aL2i at ha
  split at ha
  · next x rest =>
    obtain ⟨hr, rfl, rfl, rfl, rfl, rfl⟩ := pI_inj ha
    have hl : inL x := okh hst
    have h1 : (Int64.ofInt x).toInt32 = Int32.ofInt x := Int32.toInt.inj (by rw [Int64.toInt_toInt32, i64_of hl, i32_of hr]; have := hr.1; have := hr.2; rw [Int.bmod_eq_of_le] <;> omega)
    exact lv_l2i hx hb hd h1 (K H locs cells slots ls hH hL (ok1 (okt hst) hr))
  · cases ha
theorem lgc {x y : Int} (hx : inL x) (hy : inL y) : lg_cmp (Int64.ofInt x) (Int64.ofInt y) = Int32.ofInt (if x < y then -1 else if x = y then 0 else 1) := by
  unfold lg_cmp
  by_cases h1 : x < y
  · have h2 : ¬ Int64.ofInt y < Int64.ofInt x := by rw [i64_lt hy hx]; omega
    have h3 : Int64.ofInt x < Int64.ofInt y := by rw [i64_lt hx hy]; omega
    have h4 : ¬ Int64.ofInt x = Int64.ofInt y := by rw [i64_eq hx hy]; omega
    simp [h1, h2, h3, h4] <;> rfl
  · by_cases h5 : x = y
    · subst h5
      have h2 : ¬ Int64.ofInt x < Int64.ofInt x := by rw [i64_lt hx hx]; omega
      simp [h2] <;> rfl
    · have h2 : Int64.ofInt y < Int64.ofInt x := by rw [i64_lt hy hx]; omega
      simp [h1, h2, h5] <;> rfl
theorem sp_lcmp (hx : p.tables.exec = Jvm.exec) (hb : c.code = cc) (hH : HI D cA base tt s MC MS Sf S M H locs cells slots) (hL : LR (ph base tt) nL mls ls) (hst : ∀ v ∈ mst, okV v) (hd : decode cc pc = .ok (.lcmp, 1)) (ha : aLcmp pc mls mst S M = some (.inl (pc', mls', mst', S', M'))) (K : KK p l e R s m args below meth c Q D cA base tt nL MC MS Sf pc' mls' mst' S' M') : W p l e R s m args below meth c H locs cells slots Q (F0 m pc ls (mst.map (rv (ph base tt)))) := by
  unfold aLcmp at ha
  split at ha
  · next y x rest =>
    obtain ⟨rfl, rfl, rfl, rfl, rfl⟩ := go_inj ha
    have hy : inL y := okh hst
    have hx' : inL x := okh (okt hst)
    have hr : inR (if x < y then -1 else if x = y then 0 else 1) := by
      split
      · decide
      · split <;> decide
    have K1 := K H locs cells slots ls hH hL (ok1 (okt (okt hst)) hr)
    simp only [List.map_cons, rv] at K1 ⊢
    rw [← lgc hx' hy] at K1
    exact W.lcmp hx hb hd K1
  · cases ha
theorem sp_dup (hx : p.tables.exec = Jvm.exec) (hb : c.code = cc) (hH : HI D cA base tt s MC MS Sf S M H locs cells slots) (hL : LR (ph base tt) nL mls ls) (hst : ∀ v ∈ mst, okV v) (hd : decode cc pc = .ok (.dup, 1)) (ha : aDup pc mls mst S M = some (.inl (pc', mls', mst', S', M'))) (K : KK p l e R s m args below meth c Q D cA base tt nL MC MS Sf pc' mls' mst' S' M') : W p l e R s m args below meth c H locs cells slots Q (F0 m pc ls (mst.map (rv (ph base tt)))) := by
  unfold aDup at ha
  split at ha
  · next v rest =>
    split at ha
    · cases ha
    · next hv =>
      obtain ⟨rfl, rfl, rfl, rfl, rfl⟩ := go_inj ha
      exact lv_dup hx hb hd (by rw [rv_cat, cat]; simp [hv]) (K H locs cells slots ls hH hL (ok1 hst (okh hst)))
  · cases ha
theorem sp_dup2 (hx : p.tables.exec = Jvm.exec) (hb : c.code = cc) (hH : HI D cA base tt s MC MS Sf S M H locs cells slots) (hL : LR (ph base tt) nL mls ls) (hst : ∀ v ∈ mst, okV v) (hd : decode cc pc = .ok (.dup2, 1)) (ha : aDup2 pc mls mst S M = some (.inl (pc', mls', mst', S', M'))) (K : KK p l e R s m args below meth c Q D cA base tt nL MC MS Sf pc' mls' mst' S' M') : W p l e R s m args below meth c H locs cells slots Q (F0 m pc ls (mst.map (rv (ph base tt)))) := by
  unfold aDup2 at ha
  split at ha
  · next v w rest =>
    split at ha
    · cases ha
    · next hv =>
      obtain ⟨rfl, rfl, rfl, rfl, rfl⟩ := go_inj ha
      exact lv_dup2_11 hx hb hd (by rw [rv_cat, cat, Bool.eq_false_iff.mpr (fun q => hv (Or.inl q))]; rfl) (by rw [rv_cat, cat, Bool.eq_false_iff.mpr (fun q => hv (Or.inr q))]; rfl) (K H locs cells slots ls hH hL (ok1 (ok1 hst (okh (okt hst))) (okh hst)))
  · cases ha
theorem sp_goto (hx : p.tables.exec = Jvm.exec) (hb : c.code = cc) {off : Int} (hH : HI D cA base tt s MC MS Sf S M H locs cells slots) (hL : LR (ph base tt) nL mls ls) (hst : ∀ v ∈ mst, okV v) (hd : decode cc pc = .ok (.goto off, 3)) (ha : jmp pc off mls mst S M = some (.inl (pc', mls', mst', S', M'))) (K : KK p l e R s m args below meth c Q D cA base tt nL MC MS Sf pc' mls' mst' S' M') : W p l e R s m args below meth c H locs cells slots Q (F0 m pc ls (mst.map (rv (ph base tt)))) := by
  obtain ⟨ht, rfl, rfl, rfl, rfl⟩ := jmp_inj ha
  exact lv_goto hx hb hd ht (K H locs cells slots ls hH hL hst)
theorem sp_if_eq (hx : p.tables.exec = Jvm.exec) (hb : c.code = cc) {off : Int} (hH : HI D cA base tt s MC MS Sf S M H locs cells slots) (hL : LR (ph base tt) nL mls ls) (hst : ∀ v ∈ mst, okV v) (hd : decode cc pc = .ok (.ifCond .eq off, 3)) (ha : c0 pc off mls mst S M (fun x => decide (x = 0)) = some (.inl (pc', mls', mst', S', M'))) (K : KK p l e R s m args below meth c Q D cA base tt nL MC MS Sf pc' mls' mst' S' M') : W p l e R s m args below meth c H locs cells slots Q (F0 m pc ls (mst.map (rv (ph base tt)))) := by
  unfold c0 at ha
  split at ha
  · next x rest =>
    obtain ⟨tgt, ht, hc, rfl, rfl, rfl, rfl⟩ := br_inj ha
    have hr : inR x := okh hst
    rcases hc with ⟨hc, rfl⟩ | ⟨hc, rfl⟩
    · exact lv_if_eq hx hb hd ht (fun _ => K H locs cells slots ls hH hL (okt hst)) (fun q => absurd ((i32_eq hr inR_0).mpr (of_decide_eq_true hc)) q)
    · exact lv_if_eq hx hb hd ht (fun q => absurd ((i32_eq hr inR_0).mp q) (of_decide_eq_false hc)) (fun _ => K H locs cells slots ls hH hL (okt hst))
  · cases ha
theorem sp_icmp_eq (hx : p.tables.exec = Jvm.exec) (hb : c.code = cc) {off : Int} (hH : HI D cA base tt s MC MS Sf S M H locs cells slots) (hL : LR (ph base tt) nL mls ls) (hst : ∀ v ∈ mst, okV v) (hd : decode cc pc = .ok (.if_icmp .eq off, 3)) (ha : cI pc off mls mst S M (fun x y => decide (x = y)) = some (.inl (pc', mls', mst', S', M'))) (K : KK p l e R s m args below meth c Q D cA base tt nL MC MS Sf pc' mls' mst' S' M') : W p l e R s m args below meth c H locs cells slots Q (F0 m pc ls (mst.map (rv (ph base tt)))) := by
  unfold cI at ha
  split at ha
  · next y x rest =>
    obtain ⟨tgt, ht, hc, rfl, rfl, rfl, rfl⟩ := br_inj ha
    have hy : inR y := okh hst
    have hx' : inR x := okh (okt hst)
    rcases hc with ⟨hc, rfl⟩ | ⟨hc, rfl⟩
    · exact lv_icmp_eq hx hb hd ht (fun _ => K H locs cells slots ls hH hL (okt (okt hst))) (fun q => absurd ((i32_eq hx' hy).mpr (of_decide_eq_true hc)) q)
    · exact lv_icmp_eq hx hb hd ht (fun q => absurd ((i32_eq hx' hy).mp q) (of_decide_eq_false hc)) (fun _ => K H locs cells slots ls hH hL (okt (okt hst)))
  · cases ha
theorem sp_if_ne (hx : p.tables.exec = Jvm.exec) (hb : c.code = cc) {off : Int} (hH : HI D cA base tt s MC MS Sf S M H locs cells slots) (hL : LR (ph base tt) nL mls ls) (hst : ∀ v ∈ mst, okV v) (hd : decode cc pc = .ok (.ifCond .ne off, 3)) (ha : c0 pc off mls mst S M (fun x => decide (¬ x = 0)) = some (.inl (pc', mls', mst', S', M'))) (K : KK p l e R s m args below meth c Q D cA base tt nL MC MS Sf pc' mls' mst' S' M') : W p l e R s m args below meth c H locs cells slots Q (F0 m pc ls (mst.map (rv (ph base tt)))) := by
  unfold c0 at ha
  split at ha
  · next x rest =>
    obtain ⟨tgt, ht, hc, rfl, rfl, rfl, rfl⟩ := br_inj ha
    have hr : inR x := okh hst
    rcases hc with ⟨hc, rfl⟩ | ⟨hc, rfl⟩
    · exact lv_if_ne hx hb hd ht (fun _ => K H locs cells slots ls hH hL (okt hst)) (fun q => absurd ((i32_eq hr inR_0).mp q) (of_decide_eq_true hc))
    · exact lv_if_ne hx hb hd ht (fun q => absurd ((i32_eq hr inR_0).mpr (Decidable.not_not.mp (of_decide_eq_false hc))) q) (fun _ => K H locs cells slots ls hH hL (okt hst))
  · cases ha
theorem sp_icmp_ne (hx : p.tables.exec = Jvm.exec) (hb : c.code = cc) {off : Int} (hH : HI D cA base tt s MC MS Sf S M H locs cells slots) (hL : LR (ph base tt) nL mls ls) (hst : ∀ v ∈ mst, okV v) (hd : decode cc pc = .ok (.if_icmp .ne off, 3)) (ha : cI pc off mls mst S M (fun x y => decide (¬ x = y)) = some (.inl (pc', mls', mst', S', M'))) (K : KK p l e R s m args below meth c Q D cA base tt nL MC MS Sf pc' mls' mst' S' M') : W p l e R s m args below meth c H locs cells slots Q (F0 m pc ls (mst.map (rv (ph base tt)))) := by
  unfold cI at ha
  split at ha
  · next y x rest =>
    obtain ⟨tgt, ht, hc, rfl, rfl, rfl, rfl⟩ := br_inj ha
    have hy : inR y := okh hst
    have hx' : inR x := okh (okt hst)
    rcases hc with ⟨hc, rfl⟩ | ⟨hc, rfl⟩
    · exact lv_icmp_ne hx hb hd ht (fun _ => K H locs cells slots ls hH hL (okt (okt hst))) (fun q => absurd ((i32_eq hx' hy).mp q) (of_decide_eq_true hc))
    · exact lv_icmp_ne hx hb hd ht (fun q => absurd ((i32_eq hx' hy).mpr (Decidable.not_not.mp (of_decide_eq_false hc))) q) (fun _ => K H locs cells slots ls hH hL (okt (okt hst)))
  · cases ha
theorem sp_if_lt (hx : p.tables.exec = Jvm.exec) (hb : c.code = cc) {off : Int} (hH : HI D cA base tt s MC MS Sf S M H locs cells slots) (hL : LR (ph base tt) nL mls ls) (hst : ∀ v ∈ mst, okV v) (hd : decode cc pc = .ok (.ifCond .lt off, 3)) (ha : c0 pc off mls mst S M (fun x => decide (x < 0)) = some (.inl (pc', mls', mst', S', M'))) (K : KK p l e R s m args below meth c Q D cA base tt nL MC MS Sf pc' mls' mst' S' M') : W p l e R s m args below meth c H locs cells slots Q (F0 m pc ls (mst.map (rv (ph base tt)))) := by
  unfold c0 at ha
  split at ha
  · next x rest =>
    obtain ⟨tgt, ht, hc, rfl, rfl, rfl, rfl⟩ := br_inj ha
    have hr : inR x := okh hst
    rcases hc with ⟨hc, rfl⟩ | ⟨hc, rfl⟩
    · exact lv_if_lt hx hb hd ht (fun _ => K H locs cells slots ls hH hL (okt hst)) (fun q => absurd ((i32_lt hr inR_0).mpr (of_decide_eq_true hc)) q)
    · exact lv_if_lt hx hb hd ht (fun q => absurd ((i32_lt hr inR_0).mp q) (of_decide_eq_false hc)) (fun _ => K H locs cells slots ls hH hL (okt hst))
  · cases ha
theorem sp_icmp_lt (hx : p.tables.exec = Jvm.exec) (hb : c.code = cc) {off : Int} (hH : HI D cA base tt s MC MS Sf S M H locs cells slots) (hL : LR (ph base tt) nL mls ls) (hst : ∀ v ∈ mst, okV v) (hd : decode cc pc = .ok (.if_icmp .lt off, 3)) (ha : cI pc off mls mst S M (fun x y => decide (x < y)) = some (.inl (pc', mls', mst', S', M'))) (K : KK p l e R s m args below meth c Q D cA base tt nL MC MS Sf pc' mls' mst' S' M') : W p l e R s m args below meth c H locs cells slots Q (F0 m pc ls (mst.map (rv (ph base tt)))) := by
  unfold cI at ha
  split at ha
  · next y x rest =>
    obtain ⟨tgt, ht, hc, rfl, rfl, rfl, rfl⟩ := br_inj ha
    have hy : inR y := okh hst
    have hx' : inR x := okh (okt hst)
    rcases hc with ⟨hc, rfl⟩ | ⟨hc, rfl⟩
    · exact lv_icmp_lt hx hb hd ht (fun _ => K H locs cells slots ls hH hL (okt (okt hst))) (fun q => absurd ((i32_lt hx' hy).mpr (of_decide_eq_true hc)) q)
    · exact lv_icmp_lt hx hb hd ht (fun q => absurd ((i32_lt hx' hy).mp q) (of_decide_eq_false hc)) (fun _ => K H locs cells slots ls hH hL (okt (okt hst)))
  · cases ha
theorem sp_if_ge (hx : p.tables.exec = Jvm.exec) (hb : c.code = cc) {off : Int} (hH : HI D cA base tt s MC MS Sf S M H locs cells slots) (hL : LR (ph base tt) nL mls ls) (hst : ∀ v ∈ mst, okV v) (hd : decode cc pc = .ok (.ifCond .ge off, 3)) (ha : c0 pc off mls mst S M (fun x => decide (0 ≤ x)) = some (.inl (pc', mls', mst', S', M'))) (K : KK p l e R s m args below meth c Q D cA base tt nL MC MS Sf pc' mls' mst' S' M') : W p l e R s m args below meth c H locs cells slots Q (F0 m pc ls (mst.map (rv (ph base tt)))) := by
  unfold c0 at ha
  split at ha
  · next x rest =>
    obtain ⟨tgt, ht, hc, rfl, rfl, rfl, rfl⟩ := br_inj ha
    have hr : inR x := okh hst
    rcases hc with ⟨hc, rfl⟩ | ⟨hc, rfl⟩
    · exact lv_if_ge hx hb hd ht (fun _ => K H locs cells slots ls hH hL (okt hst)) (fun q => absurd ((i32_le inR_0 hr).mpr (of_decide_eq_true hc)) q)
    · exact lv_if_ge hx hb hd ht (fun q => absurd ((i32_le inR_0 hr).mp q) (of_decide_eq_false hc)) (fun _ => K H locs cells slots ls hH hL (okt hst))
  · cases ha
theorem sp_icmp_ge (hx : p.tables.exec = Jvm.exec) (hb : c.code = cc) {off : Int} (hH : HI D cA base tt s MC MS Sf S M H locs cells slots) (hL : LR (ph base tt) nL mls ls) (hst : ∀ v ∈ mst, okV v) (hd : decode cc pc = .ok (.if_icmp .ge off, 3)) (ha : cI pc off mls mst S M (fun x y => decide (y ≤ x)) = some (.inl (pc', mls', mst', S', M'))) (K : KK p l e R s m args below meth c Q D cA base tt nL MC MS Sf pc' mls' mst' S' M') : W p l e R s m args below meth c H locs cells slots Q (F0 m pc ls (mst.map (rv (ph base tt)))) := by
  unfold cI at ha
  split at ha
  · next y x rest =>
    obtain ⟨tgt, ht, hc, rfl, rfl, rfl, rfl⟩ := br_inj ha
    have hy : inR y := okh hst
    have hx' : inR x := okh (okt hst)
    rcases hc with ⟨hc, rfl⟩ | ⟨hc, rfl⟩
    · exact lv_icmp_ge hx hb hd ht (fun _ => K H locs cells slots ls hH hL (okt (okt hst))) (fun q => absurd ((i32_le hy hx').mpr (of_decide_eq_true hc)) q)
    · exact lv_icmp_ge hx hb hd ht (fun q => absurd ((i32_le hy hx').mp q) (of_decide_eq_false hc)) (fun _ => K H locs cells slots ls hH hL (okt (okt hst)))
  · cases ha
theorem sp_if_gt (hx : p.tables.exec = Jvm.exec) (hb : c.code = cc) {off : Int} (hH : HI D cA base tt s MC MS Sf S M H locs cells slots) (hL : LR (ph base tt) nL mls ls) (hst : ∀ v ∈ mst, okV v) (hd : decode cc pc = .ok (.ifCond .gt off, 3)) (ha : c0 pc off mls mst S M (fun x => decide (0 < x)) = some (.inl (pc', mls', mst', S', M'))) (K : KK p l e R s m args below meth c Q D cA base tt nL MC MS Sf pc' mls' mst' S' M') : W p l e R s m args below meth c H locs cells slots Q (F0 m pc ls (mst.map (rv (ph base tt)))) := by
  unfold c0 at ha
  split at ha
  · next x rest =>
    obtain ⟨tgt, ht, hc, rfl, rfl, rfl, rfl⟩ := br_inj ha
    have hr : inR x := okh hst
    rcases hc with ⟨hc, rfl⟩ | ⟨hc, rfl⟩
    · exact lv_if_gt hx hb hd ht (fun _ => K H locs cells slots ls hH hL (okt hst)) (fun q => absurd ((i32_lt inR_0 hr).mpr (of_decide_eq_true hc)) q)
    · exact lv_if_gt hx hb hd ht (fun q => absurd ((i32_lt inR_0 hr).mp q) (of_decide_eq_false hc)) (fun _ => K H locs cells slots ls hH hL (okt hst))
  · cases ha
theorem sp_icmp_gt (hx : p.tables.exec = Jvm.exec) (hb : c.code = cc) {off : Int} (hH : HI D cA base tt s MC MS Sf S M H locs cells slots) (hL : LR (ph base tt) nL mls ls) (hst : ∀ v ∈ mst, okV v) (hd : decode cc pc = .ok (.if_icmp .gt off, 3)) (ha : cI pc off mls mst S M (fun x y => decide (y < x)) = some (.inl (pc', mls', mst', S', M'))) (K : KK p l e R s m args below meth c Q D cA base tt nL MC MS Sf pc' mls' mst' S' M') : W p l e R s m args below meth c H locs cells slots Q (F0 m pc ls (mst.map (rv (ph base tt)))) := by
  unfold cI at ha
  split at ha
  · next y x rest =>
    obtain ⟨tgt, ht, hc, rfl, rfl, rfl, rfl⟩ := br_inj ha
    have hy : inR y := okh hst
    have hx' : inR x := okh (okt hst)
    rcases hc with ⟨hc, rfl⟩ | ⟨hc, rfl⟩
    · exact lv_icmp_gt hx hb hd ht (fun _ => K H locs cells slots ls hH hL (okt (okt hst))) (fun q => absurd ((i32_lt hy hx').mpr (of_decide_eq_true hc)) q)
    · exact lv_icmp_gt hx hb hd ht (fun q => absurd ((i32_lt hy hx').mp q) (of_decide_eq_false hc)) (fun _ => K H locs cells slots ls hH hL (okt (okt hst)))
  · cases ha
theorem sp_if_le (hx : p.tables.exec = Jvm.exec) (hb : c.code = cc) {off : Int} (hH : HI D cA base tt s MC MS Sf S M H locs cells slots) (hL : LR (ph base tt) nL mls ls) (hst : ∀ v ∈ mst, okV v) (hd : decode cc pc = .ok (.ifCond .le off, 3)) (ha : c0 pc off mls mst S M (fun x => decide (x ≤ 0)) = some (.inl (pc', mls', mst', S', M'))) (K : KK p l e R s m args below meth c Q D cA base tt nL MC MS Sf pc' mls' mst' S' M') : W p l e R s m args below meth c H locs cells slots Q (F0 m pc ls (mst.map (rv (ph base tt)))) := by
  unfold c0 at ha
  split at ha
  · next x rest =>
    obtain ⟨tgt, ht, hc, rfl, rfl, rfl, rfl⟩ := br_inj ha
    have hr : inR x := okh hst
    rcases hc with ⟨hc, rfl⟩ | ⟨hc, rfl⟩
    · exact lv_if_le hx hb hd ht (fun _ => K H locs cells slots ls hH hL (okt hst)) (fun q => absurd ((i32_le hr inR_0).mpr (of_decide_eq_true hc)) q)
    · exact lv_if_le hx hb hd ht (fun q => absurd ((i32_le hr inR_0).mp q) (of_decide_eq_false hc)) (fun _ => K H locs cells slots ls hH hL (okt hst))
  · cases ha
theorem sp_icmp_le (hx : p.tables.exec = Jvm.exec) (hb : c.code = cc) {off : Int} (hH : HI D cA base tt s MC MS Sf S M H locs cells slots) (hL : LR (ph base tt) nL mls ls) (hst : ∀ v ∈ mst, okV v) (hd : decode cc pc = .ok (.if_icmp .le off, 3)) (ha : cI pc off mls mst S M (fun x y => decide (x ≤ y)) = some (.inl (pc', mls', mst', S', M'))) (K : KK p l e R s m args below meth c Q D cA base tt nL MC MS Sf pc' mls' mst' S' M') : W p l e R s m args below meth c H locs cells slots Q (F0 m pc ls (mst.map (rv (ph base tt)))) := by
  unfold cI at ha
  split at ha
  · next y x rest =>
    obtain ⟨tgt, ht, hc, rfl, rfl, rfl, rfl⟩ := br_inj ha
    have hy : inR y := okh hst
    have hx' : inR x := okh (okt hst)
    rcases hc with ⟨hc, rfl⟩ | ⟨hc, rfl⟩
    · exact lv_icmp_le hx hb hd ht (fun _ => K H locs cells slots ls hH hL (okt (okt hst))) (fun q => absurd ((i32_le hx' hy).mpr (of_decide_eq_true hc)) q)
    · exact lv_icmp_le hx hb hd ht (fun q => absurd ((i32_le hx' hy).mp q) (of_decide_eq_false hc)) (fun _ => K H locs cells slots ls hH hL (okt (okt hst)))
  · cases ha
theorem sp_tab (hx : p.tables.exec = Jvm.exec) (hb : c.code = cc) {dflt lo hi : Int} {offs : Array Int} {len : Nat} (hH : HI D cA base tt s MC MS Sf S M H locs cells slots) (hL : LR (ph base tt) nL mls ls) (hst : ∀ v ∈ mst, okV v) (hd : decode cc pc = .ok (.tableswitch dflt lo hi offs, len)) (ha : aTab dflt lo hi offs pc mls mst S M = some (.inl (pc', mls', mst', S', M'))) (K : KK p l e R s m args below meth c Q D cA base tt nL MC MS Sf pc' mls' mst' S' M') : W p l e R s m args below meth c H locs cells slots Q (F0 m pc ls (mst.map (rv (ph base tt)))) := by
  unfold aTab at ha
  split at ha
  · next x rest =>
    have hr : inR x := okh hst
    split at ha
    · next h0 =>
      obtain ⟨ht, rfl, rfl, rfl, rfl⟩ := jmp_inj ha
      exact lv_tableOut hx hb hd (by rw [i32_of hr]; exact h0) ht (K H locs cells slots ls hH hL (okt hst))
    · next h0 =>
      split at ha
      · next off ho =>
        obtain ⟨ht, rfl, rfl, rfl, rfl⟩ := jmp_inj ha
        exact lv_tableIn hx hb hd (by rw [i32_of hr]; exact fun q => h0 (Or.inl q)) (by rw [i32_of hr]; exact fun q => h0 (Or.inr q)) (by rw [i32_of hr]; exact ho) ht (K H locs cells slots ls hH hL (okt hst))
      · cases ha
  · cases ha
theorem sp_look (hx : p.tables.exec = Jvm.exec) (hb : c.code = cc) {dflt : Int} {ps : Array (Int × Int)} {len : Nat} (hH : HI D cA base tt s MC MS Sf S M H locs cells slots) (hL : LR (ph base tt) nL mls ls) (hst : ∀ v ∈ mst, okV v) (hd : decode cc pc = .ok (.lookupswitch dflt ps, len)) (ha : aLook dflt ps pc mls mst S M = some (.inl (pc', mls', mst', S', M'))) (K : KK p l e R s m args below meth c Q D cA base tt nL MC MS Sf pc' mls' mst' S' M') : W p l e R s m args below meth c H locs cells slots Q (F0 m pc ls (mst.map (rv (ph base tt)))) := by
  unfold aLook at ha
  split at ha
  · next x rest =>
    have hr : inR x := okh hst
    split at ha
    · next h0 =>
      obtain ⟨ht, rfl, rfl, rfl, rfl⟩ := jmp_inj ha
      exact lv_lookup hx hb hd h0 (by rw [i32_of hr]) ht (K H locs cells slots ls hH hL (okt hst))
    · cases ha
  · cases ha
end SIMP
