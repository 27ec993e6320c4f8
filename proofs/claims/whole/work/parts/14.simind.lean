theorem gw_good : ∀ w ∈ gwT, (w.onTables && w.keeps) = true ∨ ∃ ty, w = .arrayClass ty := fun w hw => good_of_word (List.mem_filter.mp hw).2
set_option maxRecDepth 100000 in
theorem mW6 : (List.range 206).all (fun k => plainName (mY k).cls) = true := by decide +kernel
set_option maxRecDepth 100000 in
theorem mW7 : (List.range 206).all (fun k => decide (mOwn k < 9)) = true := by decide +kernel
set_option maxRecDepth 100000 in
theorem mW8 : (List.range 206).all (fun k => !decide ((mY k).name = "<init>") || (mR k).isNone) = true := by decide +kernel
set_option maxRecDepth 100000 in
theorem nest_29 : ∀ q ∈ poolM, isNest q = true → q.2 = 29 := by decide +kernel
set_option maxRecDepth 100000 in
theorem poolM_ok : ∀ q ∈ poolM, q.2 < 206 ∨ (1000 ≤ q.2 ∧ q.2 ≤ 1003) := by decide +kernel
set_option maxRecDepth 100000 in
theorem nest_ini : ∀ q ∈ poolM, isNest q = true → (mY q.2).name = "<init>" ∧ q.2 < 206 := by decide +kernel
theorem mT_at {k : Nat} (h : k < 206) : mT[k]? = some (mOwn k, mY k, mB k, mL k, mR k, mP k, mS k) := by
  have hl : mT.length = 206 := rfl
  unfold mOwn mY mB mL mR mP mS
  rw [List.getD_eq_getElem?_getD, List.getElem?_eq_getElem (by rw [hl]; exact h)]
  rfl
theorem w_code {k : Nat} (h : k < 206) : Cond.code (mY k) (mB k) (mL k) (mR k) ∈ tables_1 := by
  have h1 : (mPl.map (fun q => tables_1[q.1]?))[k]? = (mT.map (fun x => some (Cond.code x.2.1 x.2.2.1 x.2.2.2.1 x.2.2.2.2.1)))[k]? := by rw [mW1]
  rw [List.getElem?_map, List.getElem?_map, mT_at h] at h1
  cases hq : mPl[k]? with
  | none => rw [hq] at h1; cases h1
  | some q =>
    rw [hq] at h1
    simp only [Option.map_some, Option.some.injEq] at h1
    exact List.mem_of_getElem? h1
theorem all_at {f : Nat → Bool} (h : (List.range 206).all f = true) {k : Nat} (hk : k < 206) : f k = true := List.all_eq_true.mp h k (List.mem_range.mpr hk)
theorem w_ini {k : Nat} (h : k < 206) : Cond.initialized (mY k).cls ∈ tables_1 := List.mem_of_getElem? (of_decide_eq_true (all_at mW2 h))
theorem w_st {k : Nat} (h : k < 206) : wSt k ∈ tables_1 := List.mem_of_getElem? (of_decide_eq_true (all_at mW3 h))
theorem w_sel {k : Nat} (h : k < 206) (h1 : mS k = false) (h2 : ¬ (mY k).name = "<init>") : Cond.selects (mY k).cls (mY k) (mY k) ∈ gwT := by
  have h3 := all_at mW4 h
  simp only [h1, h2, Bool.false_or, decide_false] at h3
  exact List.mem_filter.mpr ⟨List.mem_of_getElem? (of_decide_eq_true h3), rfl⟩
theorem m_facts {k : Nat} (h : k < 206) : (mY k).cls = cN (mOwn k) ∧ mL k ≤ 20 ∧ (mY k).cls ≠ "java/lang/invoke/MethodHandle" ∧ (mY k).cls ≠ "java/lang/invoke/VarHandle" ∧ (parseMethodDescriptor (mY k).desc).map (fun d => d.parameters.length) = some (mP k) := of_decide_eq_true (all_at mW5 h)
def wsM (k : Nat) : List Cond := .code (mY k) (mB k) (mL k) (mR k) :: gwT
theorem wsM_good {k : Nat} (h : k < 206) : GoodIn gwT (wsM k) := fun w hw => by
  rcases List.mem_cons.mp hw with rfl | hw
  · exact ⟨tb_in (w_code h), gw_good _ (tb_in (w_code h))⟩
  · exact ⟨hw, gw_good w hw⟩
/-! a method's start and end -/
def PP (D : va_G) (cA : Nat → ClassId) (base : Nat) (tt : Nat → Nat) (av : List Vv) (S : List Sh) (M : Mem) : Array Value → State → Prop := fun v U =>
  v = (av.map (rv (ph base tt))).toArray ∧ U.heap.size = base + S.length ∧ va_P D vwCl (world base (ph base tt) cA S M) U.heap ∧ va_K D vwCl (tysOf cA) U ∧ (∀ j, j < 3 → va_Z RX1 (sN j) "[I" (.ref (tt j)) (fun q => base ≤ q) U U.heap ∧ va_T .int (tt j) 6 (fun i => .int (Int32.ofInt ((sT j).getD i 0))) (fun q => base ≤ q) U U.heap) ∧ XW U
def okR : Option Vv → Prop := fun r => ∀ v ∈ r.toList, okV v
def QQ (D : va_G) (cA : Nat → ClassId) (base : Nat) (tt : Nat → Nat) (r : Option Vv) (S : List Sh) (M : Mem) : Array Value → State → Outcome → State → Prop := fun _ st o t =>
  o = .returned (r.map (rv (ph base tt))) ∧ va_P D vwCl (world base (ph base tt) cA S M) t.heap ∧ t.heap.size = base + S.length ∧ (∀ q : Nat, q < st.heap.size → ¬ base ≤ q → t.heap[q]? = st.heap[q]?) ∧ (∀ a i, inR (M a i)) ∧ okR r ∧ S.length ≤ 1000000
theorem PP.blind {D : va_G} {cA : Nat → ClassId} {base : Nat} {tt : Nat → Nat} {av : List Vv} {S : List Sh} {M : Mem} : FrameBlind (PP D cA base tt av S M) := fun a U g mk q => by
  obtain ⟨h1, h2, h3, h4, h5, h6⟩ := q
  exact ⟨h1, h2, h3, va_K.moved (u := U) (U := U.calling g mk a) (Vm.Alike.refl U.vm) h4, fun j hj => ⟨va_Z.moved (u := U) (U := U.calling g mk a) (Vm.Alike.refl U.vm) (h5 j hj).1, va_T.moved (u := U) (U := U.calling g mk a) (Vm.Alike.refl U.vm) (h5 j hj).2⟩, h6⟩
/-- the walk of a frame, with n steps of the little machine -/
def SimW (l : Launch) (n : Nat) : Prop := ∀ (d mid pc : Nat) (mls : Lv) (mst : List Vv) (S : List Sh) (M : Mem) (r : Option Vv) (Sf : List Sh) (Mf : Mem), run n d mid pc mls mst S M = some (r, Sf, Mf) →
  ∀ (D : va_G) (cA : Nat → ClassId) (base : Nat) (tt : Nat → Nat) (p : Program) (e : Env) (s : State) (m : MethodId) (args : Array Value) (below : List Frame) (meth : Method) (c : Code) (MC MS : Nat) (H : Heap) (locs : List Loc) (cells slots : Nat) (ls : Array Slot),
  FF p s m meth c mid → CK D cA base tt s args → HI D cA base tt s MC MS Sf S M H locs cells slots → LR (ph base tt) (mL mid) mls ls → (∀ v ∈ mst, okV v) →
  W p l e (rmD d MC MS) s m args below meth c H locs cells slots (MQ below (QQ D cA base tt r Sf Mf) args s MC MS (fun q => base ≤ q)) (F0 m pc ls (mst.map (rv (ph base tt))))
theorem eLoc_len (f : Nat → Nat) : ∀ av : List Vv, (lg_sl (av.map (rv f))).length = (eLoc av).length
  | [] => rfl
  | v :: r => by
    have ih := eLoc_len f r
    have hc := rv_cat (f := f) v
    unfold cat at hc
    unfold lg_sl at ih ⊢
    rw [List.map_cons, List.flatMap_cons, List.length_append, ih]
    by_cases h : isL v = true
    · rw [if_pos h] at hc
      have e1 : eLoc (v :: r) = some v :: none :: eLoc r := if_pos h
      rw [e1]
      simp [hc]
      omega
    · rw [if_neg h] at hc
      have e1 : eLoc (v :: r) = some v :: eLoc r := if_neg h
      rw [e1]
      simp [hc]
      omega
theorem eLoc_at (f : Nat → Nat) : ∀ (av : List Vv) (i : Nat) (v : Vv), (eLoc av)[i]? = some (some v) → v ∈ av ∧ (lg_sl (av.map (rv f)))[i]? = some (Slot.val (rv f v))
  | [], i, v, h => by simp [eLoc] at h
  | w :: r, i, v, h => by
    have hc := rv_cat (f := f) w
    unfold cat at hc
    unfold eLoc at h
    have hsl : lg_sl ((w :: r).map (rv f)) = (if (rv f w).category = 2 then [Slot.val (rv f w), .second] else [Slot.val (rv f w)]) ++ lg_sl (r.map (rv f)) := by
      simp [lg_sl]
    rw [hsl]
    by_cases hl : isL w = true
    · rw [if_pos hl] at hc h
      rw [if_pos hc]
      match i, h with
      | 0, h => cases h; exact ⟨List.mem_cons_self, rfl⟩
      | 1, h => cases h
      | i + 2, h =>
        obtain ⟨h1, h2⟩ := eLoc_at f r i v (by simpa using h)
        exact ⟨List.mem_cons_of_mem _ h1, by simpa using h2⟩
    · rw [if_neg hl] at hc h
      rw [if_neg (by rw [hc]; decide)]
      match i, h with
      | 0, h => cases h; exact ⟨List.mem_cons_self, rfl⟩
      | i + 1, h =>
        obtain ⟨h1, h2⟩ := eLoc_at f r i v (by simpa using h)
        exact ⟨List.mem_cons_of_mem _ h1, by simpa using h2⟩
theorem LR_entry {f : Nat → Nat} {mid : Nat} {av : List Vv} (h : (eLoc av).length ≤ mL mid) (hok : ∀ v ∈ av, okV v) : LR f (mL mid) (entryL mid av) ((lg_sl (av.map (rv f)) ++ List.replicate (mL mid - (lg_sl (av.map (rv f))).length) Slot.unset).toArray) := by
  have hl := eLoc_len f av
  have he := lv_entry (av.map (rv f)) (n := mL mid) (by rw [hl]; exact h)
  refine ⟨by unfold entryL; simp; omega, he.1, he.2.1, fun i v hi => ?_⟩
  unfold entryL at hi
  by_cases hlt : i < (eLoc av).length
  · rw [List.getElem?_append_left hlt] at hi
    obtain ⟨h1, h2⟩ := eLoc_at f av i v hi
    refine ⟨hok v h1, ?_⟩
    rw [List.getElem?_toArray, List.getElem?_append_left (by rw [hl]; exact hlt)]
    exact h2
  · rw [List.getElem?_append_right (by omega), List.getElem?_replicate] at hi
    split at hi
    · cases hi
    · cases hi
/-- a method's contract out of its run -/
def MetA (l : Launch) (n : Nat) : Prop := ∀ (d mid : Nat) (av : List Vv) (S : List Sh) (M : Mem) (r : Option Vv) (Sf : List Sh) (Mf : Mem), run n d mid 0 (entryL mid av) [] S M = some (r, Sf, Mf) →
  ∀ (D : va_G) (cA : Nat → ClassId) (base : Nat) (tt : Nat → Nat), mid < 206 → (eLoc av).length ≤ mL mid → (∀ v ∈ av, okV v) → (∀ a i, inR (M a i)) → S.length ≤ 1000000 →
  Met l (mY mid) (wsM mid) (rmD d (Sf.length - S.length) (tot Sf - tot S)) (PP D cA base tt av S M) (QQ D cA base tt r Sf Mf) (Sf.length - S.length) (tot Sf - tot S) (fun q => base ≤ q)
theorem met_of_sim {l : Launch} {n : Nat} (h : SimW l n) : MetA l n := by
  intro d mid av S M r Sf Mf hrun D cA base tt hmid hlen hok hM hSl
  have hg := gr_run _ _ _ _ _ _ _ _ _ _ _ hrun
  refine Met.ofW (cc := mB mid) (maxL := mL mid) (ret := mR mid) (all_at mW6 hmid) rfl ?_
  intro p e s m args below meth c s₁ B hml hv
  obtain ⟨rfl, hsz, hP, hK, hZ, hX⟩ := hv
  have hts := atoms_spec (ws := wsM mid) B.pre
  have hown : s.vm.findClass (mY mid).cls = some m.cls := findClass_of_methodNamed B.named
  rw [(m_facts hmid).1] at hown
  have hname : meth.name = (mY mid).name := (name_of_methodNamed B.named B.method).1
  rw [lg_entry_eq]
  exact h d mid 0 (entryL mid av) [] S M r Sf Mf hrun D cA base tt p e s m _ below meth c (Sf.length - S.length) (tot Sf - tot S) s.heap [] 0 0 _
    ⟨B.exec, B.bytes, hml, B.returns, hown, B.notSynchronized, hname⟩
    ⟨fun w hw => hts w (List.mem_cons_of_mem _ hw), hK, hZ, by omega, hX⟩
    ⟨hP, va_S.rf, hM, hSl, by omega, by have := hg.1; omega, by have := hg.2; omega⟩ (LR_entry hlen hok) (fun v hv => by cases hv)
section SIMI
variable {p : Program} {l : Launch} {e : Env} {R : Room} {s : State} {m : MethodId} {args : Array Value} {below : List Frame} {meth : Method} {c : Code} {H : Heap} {locs : List Loc} {cells slots : Nat} {Q : State → Prop}
variable {pc : Nat} {ls : Array Slot} {rest st0 : List Value} {mc ms : Nat} {free : Addr → Prop}
theorem call_go {Qa : State → Outcome → State → Prop} (hr : va_Run p l e R s m args below meth c H locs cells slots mc ms (F0 m pc ls st0) rest Qa free)
    (kk : ∀ (v : Option Value) (st₀ t : State) (L : List Loc), st₀.heap = H → s.vm.Alike t.vm → (∀ q ∈ L, free q.base) → Qa st₀ (.returned v) t → W p l e R s m args below meth c t.heap (locs ++ L) (cells + mc) (slots + ms) Q (F0 m (pc + 3) ls (v.toList ++ rest))) : W p l e R s m args below meth c H locs cells slots Q (F0 m pc ls st0) := by
  intro T hT X
  obtain ⟨v, st₀, t, T', L, h0, X', hL, e1, e2, hq, st⟩ := hr T hT X
  obtain ⟨t2, a1, b1⟩ := kk v st₀ t L h0 (by rw [← e2]; exact X'.warmed.alike) hL hq T' e1 X'
  exact ⟨t2, st t2 a1, b1⟩
end SIMI
