theorem RepKR.cg {M M' : Mem} {K : Kt} (hK : KOk K 0) (h : RepKR M K 0) (he : ∀ j : Int, 0 ≤ j → j < 232 → M' 274 j = M 274 j) : RepKR M' K 0 := by
  have g := hK.1
  obtain ⟨h1, h2, h3⟩ := h
  refine ⟨by rw [he _ (by omega) (by omega)]; exact h1, by rw [he _ (by omega) (by omega)]; exact h2, fun p hp => ?_⟩
  have hp2 : (0 ≤ p ∧ p < kPe K) ∨ (16 ≤ p ∧ p < 16 + 0) := hp
  obtain ⟨f1, f2, f3⟩ := h3 p hp
  exact ⟨by rw [he _ (by omega) (by omega)]; exact f1, by rw [he _ (by omega) (by omega)]; exact f2, fun q => by rw [he _ (by omega) (by omega)]; exact f3 q⟩
theorem ImR.fr2 {M M' : Mem} {k : Nat} (hk : k ≤ 1) (h : ImR M k) (he : ∀ (b : Nat) (j : Int), (251 + 11 * k ≤ b ∧ b ≤ 261 + 11 * k) ∨ (b = 275 ∧ 232 * (k : Int) ≤ j ∧ j < 232 * (k : Int) + 232) ∨ ((b = 276 ∨ b = 250) ∧ j = k) ∨ (b = 0 ∧ j = 11) → M' b j = M b j) : ImR M' k := by
  obtain ⟨h1, h2⟩ := h
  unfold ImR
  rw [he 250 _ (by omega), he 276 _ (by omega), he 275 _ (by omega), he 0 11 (by omega)]
  refine ⟨h1, h2.imp id (fun q => ⟨q.1, q.2.1, ?_⟩)⟩
  obtain ⟨K, T, p1, p2, p3, p4, p5, p6, p7, p8⟩ := q.2.2
  exact ⟨K, T, p1, p2, p3, p4.fr (fun b j b0 b1 => he b j (by omega)), p5.fr (fun b j b0 b1 => he b j (by omega)), RepKR.cg p2 p6 (fun j j0 j1 => he 275 _ (by omega)), RepR.cg p2 (sane_len p2 p3) p7 (fun j j0 j1 => he 275 _ (by omega)), p8⟩
/-- an image is kept -/
theorem Rel.img {M P : Mem} {K : Kt} {T : Tt} {k : Nat} (h : Rel M) (hk : k = 0 ∨ k = 1) (hE : Elb K) (hKo : KOk K 0) (hS : Sane K T) (hKR : RepKR M K 0) (hRR : RepR M K 0 T) (h11 : M 0 11 = 1) (h231 : M 274 231 = 1)
    (hf : ∀ (b : Nat) (j : Int), ¬ (251 + 11 * k ≤ b ∧ b ≤ 261 + 11 * k) → ¬ (b = 275 ∧ 232 * (k : Int) ≤ j ∧ j < 232 * (k : Int) + 232) → ¬ ((b = 276 ∨ b = 250) ∧ j = k) → P b j = M b j)
    (h1 : P 250 k = 1) (h2 : P 276 k = 1) (h3 : RepK P (251 + 11 * k) K 0) (h4 : RepC P (256 + 11 * k) K 0 T) (h5 : ∀ j : Int, 0 ≤ j → j < 232 → P 275 (232 * (k : Int) + j) = M 274 j) : Rel P := by
  obtain ⟨a1, a2, a3, a4, ⟨K1, T1, L1, a5⟩, ⟨a6, a7⟩, a8⟩ := h
  have hI : ImR P k := ⟨h1.trans h2.symm, Or.inr ⟨h1, by rw [hf _ _ (by omega) (by omega) (by omega)]; exact h11, K, T, hE, hKo, hS, h3, h4, RepKR.cg hKo hKR h5, RepR.cg hKo (sane_len hKo hS) hRR (fun j j0 j1 => h5 j j0 (by omega)), (h5 231 (by omega) (by omega)).trans h231⟩⟩
  refine ⟨a1.fr (fun b j hb => hf b j (by omega) (by omega) (by omega)), a2.fr (hf _ _ (by omega) (by omega) (by omega)) (hf _ _ (by omega) (by omega) (by omega)), a3.fr (hf _ _ (by omega) (by omega) (by omega)) (hf _ _ (by omega) (by omega) (by omega)), a4.fr (fun j => hf _ _ (by omega) (by omega) (by omega)) (fun j => hf _ _ (by omega) (by omega) (by omega)) (hf _ _ (by omega) (by omega) (by omega)) (fun j => hf _ _ (by omega) (by omega) (by omega)), ⟨K1, T1, L1, a5.fr (fun b j hb => hf b j (by omega) (by omega) (by omega)) (hf _ _ (by omega) (by omega) (by omega)) (hf _ _ (by omega) (by omega) (by omega))⟩, ?_, a8.fr (fun j => hf _ _ (by omega) (by omega) (by omega)) (fun j => hf _ _ (by omega) (by omega) (by omega)) (hf _ _ (by omega) (by omega) (by omega)) (fun j => hf _ _ (by omega) (by omega) (by omega))⟩
  rcases hk with rfl | rfl
  · exact ⟨hI, a7.fr2 (by decide) (fun b j hb => hf b j (by omega) (by omega) (by omega))⟩
  · exact ⟨a6.fr2 (by decide) (fun b j hb => hf b j (by omega) (by omega) (by omega)), hI⟩
/-- the town is another: what stays beside it -/
theorem Rel.tw {M P : Mem} {K : Kt} {T : Tt} {L : List Tt} (h : Rel M) (hf : ∀ (b : Nat) (j : Int), ¬ (15 ≤ b ∧ b ≤ 176) → ¬ (b = 274 ∧ 0 ≤ j ∧ j < 232) → ¬ (b = 273 ∧ j = 4) → P b j = M b j) (hw : TwR P K T L) : Rel P := by
  obtain ⟨a1, a2, a3, a4, -, ⟨a6, a7⟩, a8⟩ := h
  exact ⟨a1.fr (fun b j hb => hf b j (by omega) (by omega) (by omega)), a2.fr (hf _ _ (by omega) (by omega) (by omega)) (hf _ _ (by omega) (by omega) (by omega)), a3.fr (hf _ _ (by omega) (by omega) (by omega)) (hf _ _ (by omega) (by omega) (by omega)), a4.fr (fun j => hf _ _ (by omega) (by omega) (by omega)) (fun j => hf _ _ (by omega) (by omega) (by omega)) (hf _ _ (by omega) (by omega) (by omega)) (fun j => hf _ _ (by omega) (by omega) (by omega)), ⟨K, T, L, hw⟩, ⟨a6.fr (by decide) (fun b j hb => hf b j (by omega) (by omega) (by omega)), a7.fr (by decide) (fun b j hb => hf b j (by omega) (by omega) (by omega))⟩, a8.fr (fun j => hf _ _ (by omega) (by omega) (by omega)) (fun j => hf _ _ (by omega) (by omega) (by omega)) (hf _ _ (by omega) (by omega) (by omega)) (fun j => hf _ _ (by omega) (by omega) (by omega))⟩
/-- told copied -/
theorem Cp.k {M M' : Mem} {t u : Nat} {K : Kt} (h : Cp M M' t u) (hK : KOk K 0) (hR : RepK M u K 0) : RepK M' t K 0 := by
  have g := hK.1
  obtain ⟨c1, c2, c3, c4, c5, c6, c7⟩ := h
  obtain ⟨r1, r2, r3⟩ := hR
  refine ⟨c5.trans r1, c4.trans r2, fun p hp => ?_⟩
  have hp2 : (0 ≤ p ∧ p < kPe K) ∨ (16 ≤ p ∧ p < 16 + 0) := hp
  obtain ⟨d1, d2, d3, d4⟩ := c1 p (by omega) (by omega)
  obtain ⟨f1, f2, f3⟩ := r3 p hp
  exact ⟨d1.trans f1, d2.trans f2, fun q => d4.trans (f3 q)⟩
/-- and the elbows' behind it stay -/
theorem Cp.k12 {M M' : Mem} {u : Nat} {K K0 : Kt} (h : Cp M M' 20 u) (hK : KOk K 0) (hE : Elb K) (hE0 : Elb K0) (hR : RepK M u K 0) (hR0 : RepK M 20 K0 12) : RepK M' 20 K 12 := by
  have g := hK.1
  have q := h.k hK hR
  refine ⟨q.1, q.2.1, fun p hp => ?_⟩
  have hp2 : (0 ≤ p ∧ p < kPe K) ∨ (16 ≤ p ∧ p < 16 + 12) := hp
  by_cases e : p < kPe K
  · exact q.2.2 p (Or.inl (by omega))
  · obtain ⟨c1, c2, c3, c4, c5, c6, c7⟩ := h
    have f := hR0.2.2 p (Or.inr (by omega))
    have c := c6 p (by omega)
    have e1 := hE p (by omega) (by omega)
    have e0 := hE0 p (by omega) (by omega)
    exact ⟨by rw [c.1, f.1, e1.1, e0.1], by rw [c.2, f.2.1, e1.2, e0.2], fun q => absurd q e⟩
def cpk (M : Mem) (o n : Int) : Mem := fun c j => if c = 275 ∧ o ≤ j ∧ j < o + n then M 274 (j - o) else M c j
theorem cpk_0 (M : Mem) (o : Int) : cpk M o 0 = M := by
  funext c j
  unfold cpk
  rw [if_neg (by omega)]
theorem cpk_s {M : Mem} {o n : Int} (h : 0 ≤ n) : mu (cpk M o n) 275 (o + n) (cpk M o n 274 n) = cpk M o (n + 1) := by
  have e0 : cpk M o n 274 n = M 274 n := if_neg (by omega)
  rw [e0]
  funext c j
  unfold mu cpk
  by_cases e : c = 275 ∧ j = o + n
  · rw [if_pos e, if_pos (by omega), e.2, show o + n - o = n by omega]
  · rw [if_neg e]
    by_cases e2 : c = 275 ∧ o ≤ j ∧ j < o + n
    · rw [if_pos e2, if_pos (by omega)]
    · rw [if_neg e2, if_neg (by omega)]
def cpr (M : Mem) (o n : Int) : Mem := fun c j => if c = 274 ∧ 0 ≤ j ∧ j < n then M 275 (o + j) else M c j
theorem cpr_0 (M : Mem) (o : Int) : cpr M o 0 = M := by
  funext c j
  unfold cpr
  rw [if_neg (by omega)]
theorem cpr_s {M : Mem} {o n : Int} (h : 0 ≤ n) : mu (cpr M o n) 274 n (cpr M o n 275 (o + n)) = cpr M o (n + 1) := by
  have e0 : cpr M o n 275 (o + n) = M 275 (o + n) := if_neg (by omega)
  rw [e0]
  funext c j
  unfold mu cpr
  by_cases e : c = 274 ∧ j = n
  · rw [if_pos e, if_pos (by omega), e.2]
  · rw [if_neg e]
    by_cases e2 : c = 274 ∧ 0 ≤ j ∧ j < n
    · rw [if_pos e2, if_pos (by omega)]
    · rw [if_neg e2, if_neg (by omega)]

set_option maxRecDepth 100000 in
theorem l_187 {d : Nat} {M : Mem} {Q : Option Vv → Mem → Prop} {k : Int} (hk : 0 ≤ k ∧ k ≤ 1) (kk : Q (some (vI 1)) (mu (cpk M (232 * k) 232) 276 k 1)) : ∀ (f : Nat) (i : Int), (0 ≤ i ∧ i ≤ 232) → (232 - i).toNat < f → Ok (d + 1) 187 25 [some (vR (some 273)), some (vI k), some (vI i)] [] (cpk M (232 * k) i) Q := by
  intro f
  induction f with
  | zero => intro i hi hf; exact absurd hf (Nat.not_lt_zero _)
  | succ f ih =>
    intro i hi hf
    refine k_iload_n i_187_25 rfl ?_
    refine k_sipush i_187_26 (by decide) ?_
    refine k_icmp_ge (t := 56) i_187_29 rfl (fun h29 => ?_) (fun h29 => ?_)
    · refine k_aload_n i_187_56 rfl ?_
      refine k_getR (r := 276) i_187_57 o_187 rfl (by decide) (s_273) rfl ?_
      refine k_iload_n i_187_60 rfl ?_
      refine k_iconst i_187_61 (by decide) ?_
      refine k_bast i_187_62 (s_276) (by omega) (by omega) ?_
      refine k_iconst i_187_63 (by decide) ?_
      refine k_iret i_187_64 rfl ?_
      obtain rfl : i = 232 := by omega
      exact kk
    · refine k_aload_n i_187_32 rfl ?_
      refine k_getR (r := 275) i_187_33 o_187 rfl (by decide) (s_273) rfl ?_
      refine k_sipush i_187_36 (by decide) ?_
      refine k_iload_n i_187_39 rfl ?_
      refine k_imul i_187_40 (by omega) ?_
      refine k_iload_n i_187_41 rfl ?_
      refine k_iadd i_187_42 (by omega) ?_
      refine k_aload_n i_187_43 rfl ?_
      refine k_getR (r := 274) i_187_44 o_187 rfl (by decide) (s_273) rfl ?_
      refine k_iload_n i_187_47 rfl ?_
      refine k_iald i_187_48 (s_274) (by omega) ?_
      refine k_iast i_187_49 (s_275) (by omega) ?_
      refine k_iinc (ls' := [some (vR (some 273)), some (vI k), some (vI (i + 1))]) i_187_50 rfl (by omega) rfl ?_
      refine k_goto (t := 25) i_187_53 rfl ?_
      rw [cpk_s (by omega)]
      exact ih (i + 1) (by omega) (by omega)

set_option maxRecDepth 100000 in
theorem l_188 {d : Nat} {M : Mem} {Q : Option Vv → Mem → Prop} {k : Int} (hk : 0 ≤ k ∧ k ≤ 1) (kk : Q (some (vI 1)) (mu (cpr M (232 * k) 232) 273 4 0)) : ∀ (f : Nat) (i : Int), (0 ≤ i ∧ i ≤ 232) → (232 - i).toNat < f → Ok (d + 1) 188 27 [some (vR (some 273)), some (vI k), some (vI i)] [] (cpr M (232 * k) i) Q := by
  intro f
  induction f with
  | zero => intro i hi hf; exact absurd hf (Nat.not_lt_zero _)
  | succ f ih =>
    intro i hi hf
    refine k_iload_n i_188_27 rfl ?_
    refine k_sipush i_188_28 (by decide) ?_
    refine k_icmp_ge (t := 58) i_188_31 rfl (fun h31 => ?_) (fun h31 => ?_)
    · refine k_aload_n i_188_58 rfl ?_
      refine k_iconst i_188_59 (by decide) ?_
      refine k_putI (kz := 4) i_188_60 o_188 rfl (by decide) (s_273) rfl ?_
      refine k_iconst i_188_63 (by decide) ?_
      refine k_iret i_188_64 rfl ?_
      obtain rfl : i = 232 := by omega
      exact kk
    · refine k_aload_n i_188_34 rfl ?_
      refine k_getR (r := 274) i_188_35 o_188 rfl (by decide) (s_273) rfl ?_
      refine k_iload_n i_188_38 rfl ?_
      refine k_aload_n i_188_39 rfl ?_
      refine k_getR (r := 275) i_188_40 o_188 rfl (by decide) (s_273) rfl ?_
      refine k_sipush i_188_43 (by decide) ?_
      refine k_iload_n i_188_46 rfl ?_
      refine k_imul i_188_47 (by omega) ?_
      refine k_iload_n i_188_48 rfl ?_
      refine k_iadd i_188_49 (by omega) ?_
      refine k_iald i_188_50 (s_275) (by omega) ?_
      refine k_iast i_188_51 (s_274) (by omega) ?_
      refine k_iinc (ls' := [some (vR (some 273)), some (vI k), some (vI (i + 1))]) i_188_52 rfl (by omega) rfl ?_
      refine k_goto (t := 27) i_188_55 rfl ?_
      rw [cpr_s (by omega)]
      exact ih (i + 1) (by omega) (by omega)
