/-- what is told so far, in next -/
def NX (M : Mem) (l : List Pn) (w : Int) : Prop := M 285 229 = l.length ∧ M 285 230 = l.length - w ∧ M 285 140 = w ∧ M 285 142 = 0 ∧ (∀ j : Int, 0 ≤ j → j < 28 → M 285 (28 + j) = 0) ∧ (∀ j : Int, (l.length : Int) ≤ j → j < 28 → M 285 (201 + j) = 0) ∧
  (∀ (i : Nat) (p : Pn), l[i]? = some p → M 285 (145 + i) = p.1 ∧ M 285 (173 + i) = p.2.1 ∧ M 285 (56 + i) = p.2.2.1 ∧ M 285 (84 + i) = i ∧ M 285 (201 + i) = p.2.2.2 ∧ M 285 i = (if (i : Int) < w then 1 else 0)) ∧ ∀ i : Int, 0 ≤ i → i < w → M 285 (112 + i) = i
theorem NX.add {M M' : Mem} {l : List Pn} {w w' n : Int} {x : Pn} (h : NX M l w) (hn : n = l.length) (hl : n ≤ 15) (hw : (w' = w ∧ 0 ≤ w ∧ w ≤ n) ∨ (w' = n + 1 ∧ w = n)) (c1 : M' 285 229 = n + 1) (c2 : M' 285 230 = n + 1 - w') (c3 : M' 285 140 = w')
    (e1 : M' 285 (145 + n) = x.1) (e2 : M' 285 (173 + n) = x.2.1) (e3 : M' 285 (56 + n) = x.2.2.1) (e4 : M' 285 (84 + n) = n) (e5 : M' 285 (201 + n) = x.2.2.2) (e6 : M' 285 n = (if n < w' then 1 else 0)) (e7 : n < w' → M' 285 (112 + n) = n)
    (hf : ∀ j : Int, ¬ (j = n ∨ j = 145 + n ∨ j = 173 + n ∨ j = 56 + n ∨ j = 84 + n ∨ j = 112 + n ∨ j = 201 + n ∨ j = 140 ∨ j = 229 ∨ j = 230) → M' 285 j = M 285 j) : NX M' (l ++ [x]) w' := by
  obtain ⟨a1, a2, a3, a4, a5, a6, a7, a8⟩ := h
  have len : ((l ++ [x]).length : Int) = n + 1 := by rw [List.length_append, List.length_singleton]; omega
  refine ⟨by omega, by omega, c3, by rw [hf _ (by omega)]; exact a4, fun j j0 j1 => by rw [hf _ (by omega)]; exact a5 j j0 j1, fun j j0 j1 => by rw [hf _ (by omega)]; exact a6 j (by omega) j1, fun i p hi => ?_, fun i i0 i1 => ?_⟩
  · by_cases e : i < l.length
    · rw [List.getElem?_append_left e] at hi
      have q := a7 i p hi
      rw [hf _ (by omega), hf _ (by omega), hf _ (by omega), hf _ (by omega), hf _ (by omega), hf _ (by omega)]
      refine ⟨q.1, q.2.1, q.2.2.1, q.2.2.2.1, q.2.2.2.2.1, ?_⟩
      rw [q.2.2.2.2.2]
      split
      · rw [if_pos (by omega)]
      · rw [if_neg (by omega)]
    · rw [List.getElem?_append_right (by omega)] at hi
      have e2' : i = l.length := by
        rcases Nat.lt_or_ge (i - l.length) 1 with q | q
        · omega
        · rw [List.getElem?_eq_none (by simpa using q)] at hi
          cases hi
      have ein : (i : Int) = n := by omega
      subst e2'
      rw [Nat.sub_self] at hi
      obtain rfl : x = p := Option.some.inj hi
      rw [ein]
      exact ⟨e1, e2, e3, e4, e5, e6⟩
  · by_cases e : i = n
    · rw [e]; exact e7 (by omega)
    · rw [hf _ (by omega)]; exact a8 i i0 (by omega)
def NXF (M : Mem) (l : List Pn) (w : Int) : Prop := NX M l w ∧ M 285 141 = w ∧ M 285 231 = 1
theorem NX.fin {M : Mem} {l : List Pn} {w x : Int} (h : NX M l w) (hx : x = w) (hl : l.length ≤ 28) (hw : w ≤ 28) : NXF (mu (mu M 285 141 x) 285 231 1) l w := by
  obtain ⟨a1, a2, a3, a4, a5, a6, a7, a8⟩ := h
  have hf : ∀ j : Int, j ≠ 141 → j ≠ 231 → mu (mu M 285 141 x) 285 231 1 285 j = M 285 j := fun j h0 h1 => by rw [mu_j h1, mu_j h0]
  refine ⟨⟨by rw [hf _ (by omega) (by omega)]; exact a1, by rw [hf _ (by omega) (by omega)]; exact a2, by rw [hf _ (by omega) (by omega)]; exact a3, by rw [hf _ (by omega) (by omega)]; exact a4, fun j j0 j1 => by rw [hf _ (by omega) (by omega)]; exact a5 j j0 j1, fun j j0 j1 => by rw [hf _ (by omega) (by omega)]; exact a6 j j0 j1, fun i p hi => ?_, fun i i0 i1 => by rw [hf _ (by omega) (by omega)]; exact a8 i i0 i1⟩, by rw [mu_j (by decide), mu_s]; exact hx, mu_s _ _ _ _⟩
  have := (List.getElem?_eq_some_iff.mp hi).1
  rw [hf _ (by omega) (by omega), hf _ (by omega) (by omega), hf _ (by omega) (by omega), hf _ (by omega) (by omega), hf _ (by omega) (by omega), hf _ (by omega) (by omega)]
  exact a7 i p hi
def FT (M M' : Mem) : Prop := ∀ (b : Nat) (j : Int), ¬ (b = 273 ∧ (j = 15 ∨ j = 16)) → (b = 285 → j = 143 ∨ j = 144) → M' b j = M b j
theorem fi_0 {len : Int} {s : Sp} (h : ¬ s.2 = 0) : fiS len s = s := if_neg (fun q => h q.1)
theorem fi_1 {len : Int} {s : Sp} (h : s.2 = 0) (h2 : s.1 < len) : fiS len s = (s.1, 1) := if_pos ⟨h, h2⟩
theorem fi_2 {len : Int} {s : Sp} (h2 : ¬ s.1 < len) : fiS len s = s := if_neg (fun q => h2 q.2)

set_option maxRecDepth 100000 in
theorem x_139 {d : Nat} {M0 M : Mem} {Q : Option Vv → Mem → Prop} {len : Int} {tp : Int → Int} {a e w : Int} {l : List Pn} {x2 : Option Vv} (h : RdM M len tp a) (hb : 0 ≤ M 285 229 ∧ M 285 229 ≤ 100 ∧ 0 ≤ M 285 230 ∧ M 285 230 ≤ 100) (hfr : FT M0 M) (hX : e = 0 → NX M l w ∧ (l.length : Int) ≤ 16 ∧ w ≤ 8) (kx : ∀ M', RdM M' len tp a → FT M0 M' → (e = 0 → NXF M' l w) → Q (some (vI e)) M') : Ok (d + 5) 139 185 [some (vR (some 273)), some (vI e), x2] [] M Q := by
  refine k_aload_n i_139_185 rfl ?_
  refine k_getR (r := 285) i_139_186 o_139 rfl (by decide) (s_273) rfl ?_
  refine k_sipush i_139_189 (by decide) ?_
  refine k_aload_n i_139_192 rfl ?_
  refine k_getR (r := 285) i_139_193 o_139 rfl (by decide) (s_273) rfl ?_
  refine k_sipush i_139_196 (by decide) ?_
  refine k_iald i_139_199 (s_285) (by omega) ?_
  refine k_aload_n i_139_200 rfl ?_
  refine k_getR (r := 285) i_139_201 o_139 rfl (by decide) (s_273) rfl ?_
  refine k_sipush i_139_204 (by decide) ?_
  refine k_iald i_139_207 (s_285) (by omega) ?_
  refine k_isub i_139_208 (by omega) ?_
  refine k_iast i_139_209 (s_285) (by omega) ?_
  refine k_aload_n i_139_210 rfl ?_
  refine k_getR (r := 285) i_139_211 o_139 rfl (by decide) (s_273) rfl ?_
  refine k_sipush i_139_214 (by decide) ?_
  refine k_iconst i_139_217 (by decide) ?_
  refine k_iast i_139_218 (s_285) (by omega) ?_
  refine k_iload_n i_139_219 rfl ?_
  refine k_iret i_139_220 rfl ?_
  refine kx _ ((h.off (Or.inl (by decide)) (by decide)).off (Or.inl (by decide)) (by decide)) (fun b j q0 q1 => (if_neg (by omega)).trans ((if_neg (by omega)).trans (hfr b j q0 q1))) ?_
  intro q
  have q2 := hX q
  exact q2.1.fin (by have := q2.1.1; have := q2.1.2.1; omega) (by omega) (by omega)

set_option maxRecDepth 100000 in
theorem y_139 {d : Nat} {M0 M : Mem} {Q : Option Vv → Mem → Prop} {len : Int} {tp : Int → Int} {a e : Int} {x2 : Option Vv} (h : RdM M len tp a) (hb : 0 ≤ M 285 229 ∧ M 285 229 ≤ 100 ∧ 0 ≤ M 285 230 ∧ M 285 230 ≤ 100) (hfr : FT M0 M) (he : ¬ e = 0) (kx : ∀ M', RdM M' len tp a → FT M0 M' → Q (some (vI e)) M') : Ok (d + 5) 139 117 [some (vR (some 273)), some (vI e), x2] [] M Q := by
  refine k_iload_n i_139_117 rfl ?_
  refine k_if_ne (t := 185) i_139_118 rfl (fun h118 => ?_) (fun h118 => absurd h118 he)
  exact x_139 (l := []) (w := 0) h hb hfr (fun q => absurd q he) (fun M1 r1 r2 r3 => kx M1 r1 r2)
