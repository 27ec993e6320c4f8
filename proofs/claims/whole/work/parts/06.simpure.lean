/-- the heap's side of a state of the little machine -/
def HI (D : va_G) (cA : Nat → ClassId) (base : Nat) (tt : Nat → Nat) (s : State) (MC MS : Nat) (Sf : List Sh) (S : List Sh) (M : Mem) (H : Heap) (locs : List Loc) (cells slots : Nat) : Prop :=
  va_P D vwCl (world base (ph base tt) cA S M) H ∧ va_S (fun q => base ≤ q) s.heap H locs ∧ (∀ a i, inR (M a i)) ∧ S.length ≤ 1000000 ∧ s.heap.size + cells = base + S.length ∧ cells + Sf.length = MC + S.length ∧ slots + tot Sf = MS + tot S
section SIMP
variable {p : Program} {l : Launch} {e : Env} {R : Room} {s : State} {m : MethodId} {args : Array Value} {below : List Frame} {meth : Method} {c : Code} {H : Heap} {locs : List Loc} {cells slots : Nat} {Q : State → Prop}
variable {cc : ByteArray} {pc : Nat} {ls : Array Slot}
variable {D : va_G} {cA : Nat → ClassId} {base : Nat} {tt : Nat → Nat} {nL MC MS : Nat} {Sf S S' : List Sh} {M M' : Mem} {mls mls' : Lv} {mst mst' : List Vv} {pc' : Nat}
def KK (p : Program) (l : Launch) (e : Env) (R : Room) (s : State) (m : MethodId) (args : Array Value) (below : List Frame) (meth : Method) (c : Code) (Q : State → Prop) (D : va_G) (cA : Nat → ClassId) (base : Nat) (tt : Nat → Nat) (nL MC MS : Nat) (Sf : List Sh) (pc : Nat) (mls : Lv) (mst : List Vv) (S : List Sh) (M : Mem) : Prop :=
  ∀ (H : Heap) (locs : List Loc) (cells slots : Nat) (ls : Array Slot), HI D cA base tt s MC MS Sf S M H locs cells slots → LR (ph base tt) nL mls ls → (∀ v ∈ mst, okV v) → W p l e R s m args below meth c H locs cells slots Q (F0 m pc ls (mst.map (rv (ph base tt))))
theorem ok1 {v : Vv} {st : List Vv} (h : ∀ w ∈ st, okV w) (hv : okV v) : ∀ w ∈ v :: st, okV w := fun w hw => by
  rcases List.mem_cons.mp hw with rfl | hw
  · exact hv
  · exact h w hw
theorem okt {v : Vv} {st : List Vv} (h : ∀ w ∈ v :: st, okV w) : ∀ w ∈ st, okV w := fun w hw => h w (List.mem_cons_of_mem _ hw)
theorem okh {v : Vv} {st : List Vv} (h : ∀ w ∈ v :: st, okV w) : okV v := h v List.mem_cons_self
theorem go_inj {pc pc' : Nat} {ls ls' : Lv} {st st' : List Vv} {S S' : List Sh} {M M' : Mem} (h : go pc ls st S M = some (.inl (pc', ls', st', S', M'))) : pc = pc' ∧ ls = ls' ∧ st = st' ∧ S = S' ∧ M = M' := by
  unfold go at h
  simpa using h
theorem pI_inj {pc pc' : Nat} {ls ls' : Lv} {st st' : List Vv} {S S' : List Sh} {M M' : Mem} {x : Int} (h : pI pc ls st S M x = some (.inl (pc', ls', st', S', M'))) : inR x ∧ pc = pc' ∧ ls = ls' ∧ vI x :: st = st' ∧ S = S' ∧ M = M' := by
  unfold pI at h
  split at h
  · next hx => exact ⟨hx, go_inj h⟩
  · cases h
theorem pL_inj {pc pc' : Nat} {ls ls' : Lv} {st st' : List Vv} {S S' : List Sh} {M M' : Mem} {x : Int} (h : pL pc ls st S M x = some (.inl (pc', ls', st', S', M'))) : inL x ∧ pc = pc' ∧ ls = ls' ∧ vL x :: st = st' ∧ S = S' ∧ M = M' := by
  unfold pL at h
  split at h
  · next hx => exact ⟨hx, go_inj h⟩
  · cases h
theorem jmp_inj {pc pc' : Nat} {off : Int} {ls ls' : Lv} {st st' : List Vv} {S S' : List Sh} {M M' : Mem} (h : jmp pc off ls st S M = some (.inl (pc', ls', st', S', M'))) : (pc : Int) + off = (pc' : Int) ∧ ls = ls' ∧ st = st' ∧ S = S' ∧ M = M' := by
  unfold jmp at h
  split at h
  · next hx =>
    obtain ⟨h1, h2⟩ := go_inj h
    exact ⟨by omega, h2⟩
  · cases h
theorem i8_of {n : Int} (h : -128 ≤ n ∧ n ≤ 127) : (Int8.ofInt n).toInt32 = Int32.ofInt n := Int8.toInt32_ofInt (show (-128 : Int) ≤ n from h.1) (show n ≤ (127 : Int) from h.2)
theorem i16_of {n : Int} (h : -32768 ≤ n ∧ n ≤ 32767) : (Int16.ofInt n).toInt32 = Int32.ofInt n := Int16.toInt32_ofInt (show (-32768 : Int) ≤ n from h.1) (show n ≤ (32767 : Int) from h.2)
theorem sp_iconst (hx : p.tables.exec = Jvm.exec) (hb : c.code = cc) {n : Int} (hH : HI D cA base tt s MC MS Sf S M H locs cells slots) (hL : LR (ph base tt) nL mls ls) (hst : ∀ v ∈ mst, okV v) (hd : decode cc pc = .ok (.iconst n, 1)) (ha : pI (pc + 1) mls mst S M n = some (.inl (pc', mls', mst', S', M'))) (K : KK p l e R s m args below meth c Q D cA base tt nL MC MS Sf pc' mls' mst' S' M') : W p l e R s m args below meth c H locs cells slots Q (F0 m pc ls (mst.map (rv (ph base tt)))) := by
  obtain ⟨hr, rfl, rfl, rfl, rfl, rfl⟩ := pI_inj ha
  exact lv_iconst hx hb hd rfl (K H locs cells slots ls hH hL (ok1 hst hr))
theorem sp_bipush (hx : p.tables.exec = Jvm.exec) (hb : c.code = cc) {n : Int} (hH : HI D cA base tt s MC MS Sf S M H locs cells slots) (hL : LR (ph base tt) nL mls ls) (hst : ∀ v ∈ mst, okV v) (hd : decode cc pc = .ok (.bipush n, 2)) (ha : (if -128 ≤ n ∧ n ≤ 127 then go (pc + 2) mls (vI n :: mst) S M else none) = some (.inl (pc', mls', mst', S', M'))) (K : KK p l e R s m args below meth c Q D cA base tt nL MC MS Sf pc' mls' mst' S' M') : W p l e R s m args below meth c H locs cells slots Q (F0 m pc ls (mst.map (rv (ph base tt)))) := by
  split at ha
  · next hr =>
    obtain ⟨rfl, rfl, rfl, rfl, rfl⟩ := go_inj ha
    exact lv_bipush hx hb hd (i8_of hr) (K H locs cells slots ls hH hL (ok1 hst (show inR n from ⟨by omega, by omega⟩)))
  · cases ha
theorem sp_sipush (hx : p.tables.exec = Jvm.exec) (hb : c.code = cc) {n : Int} (hH : HI D cA base tt s MC MS Sf S M H locs cells slots) (hL : LR (ph base tt) nL mls ls) (hst : ∀ v ∈ mst, okV v) (hd : decode cc pc = .ok (.sipush n, 3)) (ha : (if -32768 ≤ n ∧ n ≤ 32767 then go (pc + 3) mls (vI n :: mst) S M else none) = some (.inl (pc', mls', mst', S', M'))) (K : KK p l e R s m args below meth c Q D cA base tt nL MC MS Sf pc' mls' mst' S' M') : W p l e R s m args below meth c H locs cells slots Q (F0 m pc ls (mst.map (rv (ph base tt)))) := by
  split at ha
  · next hr =>
    obtain ⟨rfl, rfl, rfl, rfl, rfl⟩ := go_inj ha
    exact lv_sipush hx hb hd (i16_of hr) (K H locs cells slots ls hH hL (ok1 hst (show inR n from ⟨by omega, by omega⟩)))
  · cases ha
theorem sp_lconst (hx : p.tables.exec = Jvm.exec) (hb : c.code = cc) {n : Fin 2} (hH : HI D cA base tt s MC MS Sf S M H locs cells slots) (hL : LR (ph base tt) nL mls ls) (hst : ∀ v ∈ mst, okV v) (hd : decode cc pc = .ok (.lconst n, 1)) (ha : go (pc + 1) mls (vL (n.val : Int) :: mst) S M = some (.inl (pc', mls', mst', S', M'))) (K : KK p l e R s m args below meth c Q D cA base tt nL MC MS Sf pc' mls' mst' S' M') : W p l e R s m args below meth c H locs cells slots Q (F0 m pc ls (mst.map (rv (ph base tt)))) := by
  obtain ⟨rfl, rfl, rfl, rfl, rfl⟩ := go_inj ha
  exact lv_lconst hx hb hd (Int64.ofInt_eq_ofNat (n := n.val)).symm (K H locs cells slots ls hH hL (ok1 hst (show inL n from ⟨by have := n.2; omega, by have := n.2; omega⟩)))
theorem sp_ldI (hx : p.tables.exec = Jvm.exec) (hb : c.code = cc) {k q : Nat} (hH : HI D cA base tt s MC MS Sf S M H locs cells slots) (hL : LR (ph base tt) nL mls ls) (hst : ∀ v ∈ mst, okV v) (hd : (decode cc pc = .ok (.iload k, 2) ∧ q = pc + 2) ∨ (∃ j : Fin 4, j.val = k ∧ decode cc pc = .ok (.iload_n j, 1) ∧ q = pc + 1)) (ha : ldI q k mls mst S M = some (.inl (pc', mls', mst', S', M'))) (K : KK p l e R s m args below meth c Q D cA base tt nL MC MS Sf pc' mls' mst' S' M') : W p l e R s m args below meth c H locs cells slots Q (F0 m pc ls (mst.map (rv (ph base tt)))) := by
  unfold ldI at ha
  split at ha
  · next x hk =>
    obtain ⟨rfl, rfl, rfl, rfl, rfl⟩ := go_inj ha
    obtain ⟨hr, hg⟩ := hL.2.2.2 _ _ hk
    rcases hd with ⟨hd, rfl⟩ | ⟨j, rfl, hd, rfl⟩
    · exact lv_iload hx hb hd hg (K H locs cells slots ls hH hL (ok1 hst hr))
    · exact lv_iload_n hx hb hd rfl hg (K H locs cells slots ls hH hL (ok1 hst hr))
  · cases ha
theorem sp_ldL (hx : p.tables.exec = Jvm.exec) (hb : c.code = cc) {k q : Nat} (hH : HI D cA base tt s MC MS Sf S M H locs cells slots) (hL : LR (ph base tt) nL mls ls) (hst : ∀ v ∈ mst, okV v) (hd : (decode cc pc = .ok (.lload k, 2) ∧ q = pc + 2) ∨ (∃ j : Fin 4, j.val = k ∧ decode cc pc = .ok (.lload_n j, 1) ∧ q = pc + 1)) (ha : ldL q k mls mst S M = some (.inl (pc', mls', mst', S', M'))) (K : KK p l e R s m args below meth c Q D cA base tt nL MC MS Sf pc' mls' mst' S' M') : W p l e R s m args below meth c H locs cells slots Q (F0 m pc ls (mst.map (rv (ph base tt)))) := by
  unfold ldL at ha
  split at ha
  · next x hk =>
    obtain ⟨rfl, rfl, rfl, rfl, rfl⟩ := go_inj ha
    obtain ⟨hr, hg⟩ := hL.2.2.2 _ _ hk
    rcases hd with ⟨hd, rfl⟩ | ⟨j, rfl, hd, rfl⟩
    · exact lv_lload hx hb hd hg (K H locs cells slots ls hH hL (ok1 hst hr))
    · exact lv_lload_n hx hb hd rfl hg (K H locs cells slots ls hH hL (ok1 hst hr))
  · cases ha
theorem sp_ldA (hx : p.tables.exec = Jvm.exec) (hb : c.code = cc) {k q : Nat} (hH : HI D cA base tt s MC MS Sf S M H locs cells slots) (hL : LR (ph base tt) nL mls ls) (hst : ∀ v ∈ mst, okV v) (hd : (decode cc pc = .ok (.aload k, 2) ∧ q = pc + 2) ∨ (∃ j : Fin 4, j.val = k ∧ decode cc pc = .ok (.aload_n j, 1) ∧ q = pc + 1)) (ha : ldA q k mls mst S M = some (.inl (pc', mls', mst', S', M'))) (K : KK p l e R s m args below meth c Q D cA base tt nL MC MS Sf pc' mls' mst' S' M') : W p l e R s m args below meth c H locs cells slots Q (F0 m pc ls (mst.map (rv (ph base tt)))) := by
  unfold ldA at ha
  split at ha
  · next x hk =>
    obtain ⟨rfl, rfl, rfl, rfl, rfl⟩ := go_inj ha
    obtain ⟨hr, hg⟩ := hL.2.2.2 _ _ hk
    rcases hd with ⟨hd, rfl⟩ | ⟨j, rfl, hd, rfl⟩
    · exact lv_aload hx hb hd hg (K H locs cells slots ls hH hL (ok1 hst hr))
    · exact lv_aload_n hx hb hd rfl hg (K H locs cells slots ls hH hL (ok1 hst hr))
  · cases ha
theorem sp_stI (hx : p.tables.exec = Jvm.exec) (hb : c.code = cc) {k q : Nat} (hH : HI D cA base tt s MC MS Sf S M H locs cells slots) (hL : LR (ph base tt) nL mls ls) (hst : ∀ v ∈ mst, okV v) (hd : (decode cc pc = .ok (.istore k, 2) ∧ q = pc + 2) ∨ (∃ j : Fin 4, j.val = k ∧ decode cc pc = .ok (.istore_n j, 1) ∧ q = pc + 1)) (ha : stI q k mls mst S M = some (.inl (pc', mls', mst', S', M'))) (K : KK p l e R s m args below meth c Q D cA base tt nL MC MS Sf pc' mls' mst' S' M') : W p l e R s m args below meth c H locs cells slots Q (F0 m pc ls (mst.map (rv (ph base tt)))) := by
  unfold stI at ha
  split at ha
  · next x rest =>
    split at ha
    · next ls2 h1 =>
      obtain ⟨rfl, rfl, rfl, rfl, rfl⟩ := go_inj ha
      have hk := st1_lt h1
      rw [hL.1] at hk
      rcases hd with ⟨hd, rfl⟩ | ⟨j, rfl, hd, rfl⟩
      · exact lv_istore hx hb hd hL.has hk rfl (fun ls' h' => K H locs cells slots ls' hH (LRst1 hL h1 (okh hst) h') (okt hst))
      · exact lv_istore_n hx hb hd rfl hL.has hk rfl (fun ls' h' => K H locs cells slots ls' hH (LRst1 hL h1 (okh hst) h') (okt hst))
    · cases ha
  · cases ha
theorem sp_stL (hx : p.tables.exec = Jvm.exec) (hb : c.code = cc) {k q : Nat} (hH : HI D cA base tt s MC MS Sf S M H locs cells slots) (hL : LR (ph base tt) nL mls ls) (hst : ∀ v ∈ mst, okV v) (hd : (decode cc pc = .ok (.lstore k, 2) ∧ q = pc + 2) ∨ (∃ j : Fin 4, j.val = k ∧ decode cc pc = .ok (.lstore_n j, 1) ∧ q = pc + 1)) (ha : stL q k mls mst S M = some (.inl (pc', mls', mst', S', M'))) (K : KK p l e R s m args below meth c Q D cA base tt nL MC MS Sf pc' mls' mst' S' M') : W p l e R s m args below meth c H locs cells slots Q (F0 m pc ls (mst.map (rv (ph base tt)))) := by
  unfold stL at ha
  split at ha
  · next x rest =>
    split at ha
    · next ls2 h1 =>
      obtain ⟨rfl, rfl, rfl, rfl, rfl⟩ := go_inj ha
      have hk := st2_lt h1
      rw [hL.1] at hk
      rcases hd with ⟨hd, rfl⟩ | ⟨j, rfl, hd, rfl⟩
      · exact lv_lstore hx hb hd hL.has hk rfl (fun ls' h' => K H locs cells slots ls' hH (LRst2 hL h1 (okh hst) h') (okt hst))
      · exact lv_lstore_n hx hb hd rfl hL.has hk rfl (fun ls' h' => K H locs cells slots ls' hH (LRst2 hL h1 (okh hst) h') (okt hst))
    · cases ha
  · cases ha
theorem sp_stA (hx : p.tables.exec = Jvm.exec) (hb : c.code = cc) {k q : Nat} (hH : HI D cA base tt s MC MS Sf S M H locs cells slots) (hL : LR (ph base tt) nL mls ls) (hst : ∀ v ∈ mst, okV v) (hd : (decode cc pc = .ok (.astore k, 2) ∧ q = pc + 2) ∨ (∃ j : Fin 4, j.val = k ∧ decode cc pc = .ok (.astore_n j, 1) ∧ q = pc + 1)) (ha : stA q k mls mst S M = some (.inl (pc', mls', mst', S', M'))) (K : KK p l e R s m args below meth c Q D cA base tt nL MC MS Sf pc' mls' mst' S' M') : W p l e R s m args below meth c H locs cells slots Q (F0 m pc ls (mst.map (rv (ph base tt)))) := by
  unfold stA at ha
  split at ha
  · next x rest =>
    split at ha
    · next ls2 h1 =>
      obtain ⟨rfl, rfl, rfl, rfl, rfl⟩ := go_inj ha
      have hk := st1_lt h1
      rw [hL.1] at hk
      rcases hd with ⟨hd, rfl⟩ | ⟨j, rfl, hd, rfl⟩
      · exact lv_astore hx hb hd hL.has hk rfl (fun ls' h' => K H locs cells slots ls' hH (LRst1 hL h1 (okh hst) h') (okt hst))
      · exact lv_astore_n hx hb hd rfl hL.has hk rfl (fun ls' h' => K H locs cells slots ls' hH (LRst1 hL h1 (okh hst) h') (okt hst))
    · cases ha
  · cases ha
theorem sp_iinc (hx : p.tables.exec = Jvm.exec) (hb : c.code = cc) {k : Nat} {n : Int} (hH : HI D cA base tt s MC MS Sf S M H locs cells slots) (hL : LR (ph base tt) nL mls ls) (hst : ∀ v ∈ mst, okV v) (hd : decode cc pc = .ok (.iinc k n, 3)) (ha : aInc pc k n mls mst S M = some (.inl (pc', mls', mst', S', M'))) (K : KK p l e R s m args below meth c Q D cA base tt nL MC MS Sf pc' mls' mst' S' M') : W p l e R s m args below meth c H locs cells slots Q (F0 m pc ls (mst.map (rv (ph base tt)))) := by
  unfold aInc at ha
  split at ha
  · next x hk =>
    split at ha
    · next hr =>
      split at ha
      · next ls2 h1 =>
        obtain ⟨rfl, rfl, rfl, rfl, rfl⟩ := go_inj ha
        have hl := st1_lt h1
        rw [hL.1] at hl
        obtain ⟨j, hj⟩ := List.getElem?_of_mem ((mem_lvOf (f := ph base tt) (q := (k, rv (ph base tt) (vI x)))).mpr ⟨_, hk, rfl⟩)
        exact lv_iinc hx hb hd hL.has hj (Int32.ofInt_add x n).symm hl rfl (fun ls' h' => K H locs cells slots ls' hH (LRst1 hL h1 hr.2 h') hst)
      · cases ha
    · cases ha
  · cases ha
theorem bI_inj {pc pc' : Nat} {ls ls' : Lv} {st st' : List Vv} {S S' : List Sh} {M M' : Mem} {f : Int → Int → Option Int} (h : bI pc ls st S M f = some (.inl (pc', ls', st', S', M'))) : ∃ x y z rest, st = vI y :: vI x :: rest ∧ f x y = some z ∧ inR z ∧ pc = pc' ∧ ls = ls' ∧ vI z :: rest = st' ∧ S = S' ∧ M = M' := by
  unfold bI at h
  split at h
  · next y x rest =>
    split at h
    · next z hz => exact ⟨x, y, z, rest, rfl, hz, pI_inj h⟩
    · cases h
  · cases h
theorem bL_inj {pc pc' : Nat} {ls ls' : Lv} {st st' : List Vv} {S S' : List Sh} {M M' : Mem} {f : Int → Int → Option Int} (h : bL pc ls st S M f = some (.inl (pc', ls', st', S', M'))) : ∃ x y z rest, st = vL y :: vL x :: rest ∧ f x y = some z ∧ inL z ∧ pc = pc' ∧ ls = ls' ∧ vL z :: rest = st' ∧ S = S' ∧ M = M' := by
  unfold bL at h
  split at h
  · next y x rest =>
    split at h
    · next z hz => exact ⟨x, y, z, rest, rfl, hz, pL_inj h⟩
    · cases h
  · cases h
theorem uI_inj {pc pc' : Nat} {ls ls' : Lv} {st st' : List Vv} {S S' : List Sh} {M M' : Mem} {f : Int → Int} (h : uI pc ls st S M f = some (.inl (pc', ls', st', S', M'))) : ∃ x rest, st = vI x :: rest ∧ inR (f x) ∧ pc = pc' ∧ ls = ls' ∧ vI (f x) :: rest = st' ∧ S = S' ∧ M = M' := by
  unfold uI at h
  split at h
  · next x rest => exact ⟨x, rest, rfl, pI_inj h⟩
  · cases h
theorem br_inj {b : Bool} {pc pc' : Nat} {off : Int} {ls ls' : Lv} {st st' : List Vv} {S S' : List Sh} {M M' : Mem} (h : br b pc off ls st S M = some (.inl (pc', ls', st', S', M'))) : ∃ tgt : Nat, (pc : Int) + off = (tgt : Int) ∧ ((b = true ∧ tgt = pc') ∨ (b = false ∧ pc + 3 = pc')) ∧ ls = ls' ∧ st = st' ∧ S = S' ∧ M = M' := by
  unfold br at h
  split at h
  · next h0 =>
    split at h
    · next hb =>
      obtain ⟨h1, h2⟩ := go_inj h
      exact ⟨((pc : Int) + off).toNat, by omega, Or.inl ⟨hb, h1⟩, h2⟩
    · next hb =>
      obtain ⟨h1, h2⟩ := go_inj h
      exact ⟨((pc : Int) + off).toNat, by omega, Or.inr ⟨by simpa using hb, h1⟩, h2⟩
  · cases h
end SIMP
