/-! numbers -/
theorem i32_of {x : Int} (h : inR x) : (Int32.ofInt x).toInt = x := Int32.toInt_ofInt_of_le (by have := h.1; omega) (by have := h.2; omega)
theorem i64_of {x : Int} (h : inL x) : (Int64.ofInt x).toInt = x := Int64.toInt_ofInt_of_le (by have := h.1; omega) (by have := h.2; omega)
theorem i32_eq {x y : Int} (hx : inR x) (hy : inR y) : Int32.ofInt x = Int32.ofInt y ↔ x = y := ⟨fun h => by have h2 := congrArg Int32.toInt h; rwa [i32_of hx, i32_of hy] at h2, fun h => by rw [h]⟩
theorem i32_lt {x y : Int} (hx : inR x) (hy : inR y) : Int32.ofInt x < Int32.ofInt y ↔ x < y := by rw [Int32.lt_iff_toInt_lt, i32_of hx, i32_of hy]
theorem i32_le {x y : Int} (hx : inR x) (hy : inR y) : Int32.ofInt x ≤ Int32.ofInt y ↔ x ≤ y := by rw [Int32.le_iff_toInt_le, i32_of hx, i32_of hy]
theorem i64_eq {x y : Int} (hx : inL x) (hy : inL y) : Int64.ofInt x = Int64.ofInt y ↔ x = y := ⟨fun h => by have h2 := congrArg Int64.toInt h; rwa [i64_of hx, i64_of hy] at h2, fun h => by rw [h]⟩
theorem i64_lt {x y : Int} (hx : inL x) (hy : inL y) : Int64.ofInt x < Int64.ofInt y ↔ x < y := by rw [Int64.lt_iff_toInt_lt, i64_of hx, i64_of hy]
theorem inR_0 : inR 0 := by decide
theorem inL_0 : inL 0 := by decide
theorem i32_0 : Int32.ofInt 0 = 0 := rfl
theorem i64_0 : Int64.ofInt 0 = 0 := rfl
theorem inR_toInt (x : Int32) : inR x.toInt := ⟨by have := Int32.le_toInt x; omega, by have := Int32.toInt_lt x; omega⟩
theorem inL_R {x : Int} (h : inR x) : inL x := ⟨by have := h.1; omega, by have := h.2; omega⟩
theorem i32_clamp {x : Int} (h : inR x) : (Int32.ofInt x).toNatClampNeg = x.toNat := Int32.toNatClampNeg_ofInt_of_le (by have := h.1; omega) (by have := h.2; omega)
theorem i32_neg {x : Int} (h : inR x) (h0 : 0 ≤ x) : ¬ Int32.ofInt x < 0 := by
  rw [← i32_0, i32_lt h inR_0]; omega
theorem i32_in {x : Int} {n : Nat} (h : inR x) (h0 : 0 ≤ x) (h1 : x < n) : vp_in (Int32.ofInt x) n := by
  intro q
  rcases q with q | q
  · exact i32_neg h h0 q
  · rw [i32_clamp h] at q; omega
theorem i32_div {x y : Int} (hx : inR x) (hy : inR y) : Int32.ofInt x / Int32.ofInt y = Int32.ofInt (x.tdiv y) := (Int32.ofInt_tdiv (by have := hx.1; show (-2147483648 : Int) ≤ x; omega) (by have := hx.2; show x ≤ (2147483647 : Int); omega) (by have := hy.1; show (-2147483648 : Int) ≤ y; omega) (by have := hy.2; show y ≤ (2147483647 : Int); omega)).symm
theorem i64_div {x y : Int} (hx : inL x) (hy : inL y) : Int64.ofInt x / Int64.ofInt y = Int64.ofInt (x.tdiv y) := (Int64.ofInt_tdiv (by have := hx.1; show (-9223372036854775808 : Int) ≤ x; omega) (by have := hx.2; show x ≤ (9223372036854775807 : Int); omega) (by have := hy.1; show (-9223372036854775808 : Int) ≤ y; omega) (by have := hy.2; show y ≤ (9223372036854775807 : Int); omega)).symm
theorem i32_rem {x y : Int} (hx : inR x) (hy : inR y) : Int32.ofInt x - Int32.ofInt x / Int32.ofInt y * Int32.ofInt y = Int32.ofInt (x.tmod y) := by
  rw [i32_div hx hy, ← Int32.ofInt_mul, ← Int32.ofInt_sub]
  congr 1
  have h := Int.tdiv_mul_add_tmod x y
  omega
theorem i64_rem {x y : Int} (hx : inL x) (hy : inL y) : Int64.ofInt x - Int64.ofInt x / Int64.ofInt y * Int64.ofInt y = Int64.ofInt (x.tmod y) := by
  rw [i64_div hx hy, ← Int64.ofInt_mul, ← Int64.ofInt_sub]
  congr 1
  have h := Int.tdiv_mul_add_tmod x y
  omega
/-! values, worlds -/
def ph (base : Nat) (tt : Nat → Nat) (a : Nat) : Nat := if 1000000 ≤ a then tt (a - 1000000) else base + a
def rv (f : Nat → Nat) : Vv → Value
  | .inl x => .int (Int32.ofInt x)
  | .inr (.inl x) => .long (Int64.ofInt x)
  | .inr (.inr r) => va_rf (r.map f)
def okV : Vv → Prop
  | .inl x => inR x
  | .inr (.inl x) => inL x
  | .inr (.inr _) => True
theorem rv_cat {f : Nat → Nat} (v : Vv) : (rv f v).category = cat v := by
  rcases v with x | x | x
  · rfl
  · rfl
  · cases x <;> rfl
def slotV (f : Nat → Nat) (M : Mem) (a ci : Nat) (rf : List (Option Nat)) (k : Nat) : Value := if fty ci k = 1 then va_rf ((rf.getD k none).map f) else .int (Int32.ofInt (M a (k : Int)))
def cellE (f : Nat → Nat) (cA : Nat → ClassId) (M : Mem) (a : Nat) (h : Sh) : va_E :=
  if h.1 < 9 then .inr (h.1, (List.range (fnum h.1)).map (slotV f M a h.1 h.2.2))
  else if h.1 ≤ 21 then .inl (cA h.1, h.2.1, .inl (fun i => Int32.ofInt (M a (i : Int))))
  else .inl (cA h.1, h.2.1, .inr (.inr (.inr (.inr (fun i => (h.2.2.getD i none).map f)))))
def world (base : Nat) (f : Nat → Nat) (cA : Nat → ClassId) (S : List Sh) (M : Mem) : va_W := S.mapIdx (fun a h => (base + a, cellE f cA M a h))
theorem world_at {base : Nat} {f : Nat → Nat} {cA : Nat → ClassId} {S : List Sh} {M : Mem} {a : Nat} {h : Sh} (hs : S[a]? = some h) : (world base f cA S M)[a]? = some (base + a, cellE f cA M a h) := by
  simp [world, List.getElem?_mapIdx, hs]
theorem cellE_congr {f : Nat → Nat} {cA : Nat → ClassId} {M N : Mem} {a : Nat} {h : Sh} (e : ∀ i, M a i = N a i) : cellE f cA M a h = cellE f cA N a h := by
  have h1 : slotV f M a h.1 h.2.2 = slotV f N a h.1 h.2.2 := by funext k; simp only [slotV, e]
  simp only [cellE, h1, e]
theorem world_set {base : Nat} {f : Nat → Nat} {cA : Nat → ClassId} {S S' : List Sh} {M N : Mem} {a : Nat} {h : Sh} {E : va_E} (ha : S'[a]? = some h) (hE : E = cellE f cA N a h) (ho : ∀ b, b ≠ a → S'[b]? = S[b]?) (hM : ∀ b, b ≠ a → ∀ i, N b i = M b i) (hlt : a < S.length) : (world base f cA S M).set a (base + a, E) = world base f cA S' N := by
  apply List.ext_getElem?
  intro b
  by_cases e : b = a
  · subst e
    rw [List.getElem?_set_self (by simpa [world] using hlt), world_at ha, hE]
  · rw [List.getElem?_set_ne (fun q => e q.symm)]
    simp only [world, List.getElem?_mapIdx, ho b e]
    cases S[b]? with
    | none => rfl
    | some h' => simp only [Option.map_some]; rw [cellE_congr (fun i => hM b e i)]
theorem world_app {base : Nat} {f : Nat → Nat} {cA : Nat → ClassId} {S : List Sh} {M N : Mem} {h : Sh} {E : va_E} (hE : E = cellE f cA N S.length h) (hM : ∀ b, b < S.length → ∀ i, N b i = M b i) : world base f cA S M ++ [(base + S.length, E)] = world base f cA (S ++ [h]) N := by
  apply List.ext_getElem?
  intro b
  have hl : (world base f cA S M).length = S.length := by simp [world]
  by_cases e : b < S.length
  · rw [List.getElem?_append_left (by rw [hl]; exact e)]
    simp only [world, List.getElem?_mapIdx, List.getElem?_append_left e]
    cases S[b]? with
    | none => rfl
    | some h' => simp only [Option.map_some]; rw [cellE_congr (fun i => hM b e i)]
  · rw [List.getElem?_append_right (by rw [hl]; omega), hl]
    by_cases e2 : b = S.length
    · subst e2
      rw [world_at (h := h) (by simp)]
      simp [hE]
    · have h1 : ¬ b - S.length < 1 := by omega
      rw [List.getElem?_eq_none (by simp; omega)]
      symm
      apply List.getElem?_eq_none
      simp [world]
      omega
theorem world_D {base : Nat} {f : Nat → Nat} {cA : Nat → ClassId} {S : List Sh} {M : Mem} : va_D (fun q => base ≤ q) (world base f cA S M) := by
  refine ⟨fun i j p q hi hj hpq => ?_, fun k q hk => ?_⟩
  · simp only [world, List.getElem?_mapIdx, Option.map_eq_some_iff] at hi hj
    obtain ⟨x, -, rfl⟩ := hi
    obtain ⟨y, -, rfl⟩ := hj
    simp only at hpq
    omega
  · simp only [world, List.getElem?_mapIdx, Option.map_eq_some_iff] at hk
    obtain ⟨x, -, rfl⟩ := hk
    exact Nat.le_add_right _ _
def tot (S : List Sh) : Nat := (S.map (fun h => h.2.1)).sum
/-! locals -/
def LR (f : Nat → Nat) (nL : Nat) (mls : Lv) (ls : Array Slot) : Prop := mls.length = nL ∧ ls.size = nL ∧ lv_wf ls ∧ ∀ (i : Nat) (v : Vv), mls[i]? = some (some v) → okV v ∧ ls[i]? = some (.val (rv f v))
def lvOf (f : Nat → Nat) (mls : Lv) : List (Nat × Value) := (List.range mls.length).filterMap (fun i => match mls[i]? with
  | some (some v) => some (i, rv f v)
  | _ => none)
theorem mem_lvOf {f : Nat → Nat} {mls : Lv} {q : Nat × Value} : q ∈ lvOf f mls ↔ ∃ v, mls[q.1]? = some (some v) ∧ q.2 = rv f v := by
  simp only [lvOf, List.mem_filterMap, List.mem_range]
  constructor
  · rintro ⟨i, hi, h⟩
    split at h
    · next v hv =>
      cases h
      exact ⟨v, hv, rfl⟩
    · cases h
  · rintro ⟨v, h, e⟩
    refine ⟨q.1, (List.getElem?_eq_some_iff.mp h).1, ?_⟩
    rw [h]
    simp only [← e]
theorem LR.has {f : Nat → Nat} {nL : Nat} {mls : Lv} {ls : Array Slot} (h : LR f nL mls ls) : lv_has ls nL (lvOf f mls) := by
  refine ⟨h.2.1, h.2.2.1, fun q hq => ?_⟩
  obtain ⟨v, h1, h2⟩ := mem_lvOf.mp hq
  rw [h2]
  exact (h.2.2.2 _ _ h1).2
theorem prevL_ne {mls : Lv} {k j : Nat} {v : Vv} (h : prevL mls k = false) (hj : mls[j]? = some (some v)) (e : j + 1 = k) : isL v = false := by
  subst e
  simp only [prevL, hj] at h
  exact h
theorem LRst1 {f : Nat → Nat} {nL k : Nat} {mls mls' : Lv} {ls ls' : Array Slot} {v : Vv} (h : LR f nL mls ls) (h1 : st1 mls k v = some mls') (hv : okV v)
    (h' : lv_has ls' nL ((k, rv f v) :: (lvOf f mls).filter (fun q => !(q.1 == k) && !(q.1 + 1 == k && q.2.category == 2)))) : LR f nL mls' ls' := by
  unfold st1 at h1
  split at h1
  · next hc =>
    cases h1
    refine ⟨by rw [List.length_set]; exact h.1, h'.1, h'.2.1, fun i w hi => ?_⟩
    by_cases e : i = k
    · subst e
      rw [List.getElem?_set_self hc.1] at hi
      cases hi
      exact ⟨hv, h'.2.2 _ List.mem_cons_self⟩
    · rw [List.getElem?_set_ne (fun q => e q.symm)] at hi
      refine ⟨(h.2.2.2 i w hi).1, h'.2.2 (i, rv f w) (List.mem_cons_of_mem _ (List.mem_filter.mpr ⟨mem_lvOf.mpr ⟨w, hi, rfl⟩, ?_⟩))⟩
      have h2 : ¬ (i + 1 = k ∧ (rv f w).category = 2) := by
        rintro ⟨e1, e2⟩
        rw [rv_cat, cat, prevL_ne hc.2 hi e1] at e2
        simp at e2
      by_cases e1 : i + 1 = k
      · have e2 : (rv f w).category ≠ 2 := fun q => h2 ⟨e1, q⟩
        simp [e, e2]
      · simp [e, e1]
  · cases h1
theorem LRst2 {f : Nat → Nat} {nL k : Nat} {mls mls' : Lv} {ls ls' : Array Slot} {v : Vv} (h : LR f nL mls ls) (h1 : st2 mls k v = some mls') (hv : okV v)
    (h' : lv_has ls' nL ((k, rv f v) :: (lvOf f mls).filter (fun q => !(q.1 == k) && (!(q.1 == k + 1) && !(q.1 + 1 == k && q.2.category == 2))))) : LR f nL mls' ls' := by
  unfold st2 at h1
  split at h1
  · next hc =>
    cases h1
    refine ⟨by rw [List.length_set, List.length_set]; exact h.1, h'.1, h'.2.1, fun i w hi => ?_⟩
    by_cases e0 : i = k + 1
    · subst e0
      rw [List.getElem?_set_self (by rw [List.length_set]; exact hc.1)] at hi
      cases hi
    · rw [List.getElem?_set_ne (fun q => e0 q.symm)] at hi
      by_cases e : i = k
      · subst e
        rw [List.getElem?_set_self (by omega)] at hi
        cases hi
        exact ⟨hv, h'.2.2 _ List.mem_cons_self⟩
      · rw [List.getElem?_set_ne (fun q => e q.symm)] at hi
        refine ⟨(h.2.2.2 i w hi).1, h'.2.2 (i, rv f w) (List.mem_cons_of_mem _ (List.mem_filter.mpr ⟨mem_lvOf.mpr ⟨w, hi, rfl⟩, ?_⟩))⟩
        by_cases e1 : i + 1 = k
        · have e2 : (rv f w).category ≠ 2 := by
            intro q
            rw [rv_cat, cat, prevL_ne hc.2 hi e1] at q
            simp at q
          simp [e, e0, e2]
        · simp [e, e0, e1]
  · cases h1
theorem st1_lt {mls mls' : Lv} {k : Nat} {v : Vv} (h : st1 mls k v = some mls') : k < mls.length := by
  unfold st1 at h
  split at h
  · next hc => exact hc.1
  · cases h
theorem st2_lt {mls mls' : Lv} {k : Nat} {v : Vv} (h : st2 mls k v = some mls') : k + 1 < mls.length := by
  unfold st2 at h
  split at h
  · next hc => exact hc.1
  · cases h
