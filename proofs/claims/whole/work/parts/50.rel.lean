/-! THE RELATION of both objects, in one memory -/
def RRow (M : Mem) : Prop := ∀ r : Int, 0 ≤ r → r < 8 → -1 ≤ M 12 r ∧ M 12 r ≤ 40 ∧ 0 ≤ M 280 r ∧ M 280 r ≤ 40 ∧ ((M 12 r = -1 ∧ M 281 r = 0) ∨ (0 ≤ M 12 r ∧ M 281 r = 1 ∧ M 280 r = M 12 r ∧ M 279 r = M 11 r ∧ ∀ i : Int, 0 ≤ i → i < M 12 r → M 282 (40 * r + i) = M (3 + r.toNat) i))
def RSt (M : Mem) : Prop := M 0 13 = M 273 6
def RFa (M : Mem) : Prop := M 0 12 = M 273 14
def RTape (M : Mem) : Prop := M 13 1 = M 273 13 ∧ 0 ≤ M 13 1 ∧ M 13 1 ≤ 160 ∧ ∀ i : Int, 0 ≤ i → i < M 13 1 → M 14 i = M 284 i ∧ 0 ≤ M 14 i ∧ M 14 i ≤ 255
/-- a town that may stand -/
def Sane (K : Kt) (T : Tt) : Prop := TOk K 0 T ∧ kWt K ≤ tNx T ∧ tMi T ≤ 999
def TwR (M : Mem) (K : Kt) (T : Tt) (L : List Tt) : Prop := Elb K ∧ KOk K 0 ∧ Sane K T ∧ RepK M 20 K 12 ∧ RepC M 25 K 0 T ∧ RepKR M K 0 ∧ RepR M K 0 T ∧ ActsC M K L ∧ ActsR M K L ∧ (∀ U ∈ L, Sane K U) ∧ ((M 0 11 = 0 ∧ M 274 231 = 0 ∧ kPe K = 0 ∧ L = []) ∨ (M 0 11 = 1 ∧ M 274 231 = 1))
def RTw (M : Mem) : Prop := ∃ K T L, TwR M K T L
def ImR (M : Mem) (k : Nat) : Prop := M 250 k = M 276 k ∧ (M 250 k = 0 ∨ (M 250 k = 1 ∧ M 0 11 = 1 ∧ ∃ K T, Elb K ∧ KOk K 0 ∧ Sane K T ∧ RepK M (251 + 11 * k) K 0 ∧ RepC M (256 + 11 * k) K 0 T ∧ RepKR (fun _ j => M 275 (232 * k + j)) K 0 ∧ RepR (fun _ j => M 275 (232 * k + j)) K 0 T ∧ M 275 (232 * k + 231) = 1))
def RIm (M : Mem) : Prop := ImR M 0 ∧ ImR M 1
def RTr (M : Mem) : Prop := M 246 3 = M 273 21 ∧ 0 ≤ M 246 3 ∧ M 246 3 ≤ 16 ∧ ∀ i : Int, 0 ≤ i → i < M 246 3 → M 247 i = M 288 i
def Rel (M : Mem) : Prop := RRow M ∧ RSt M ∧ RFa M ∧ RTape M ∧ RTw M ∧ RIm M ∧ RTr M
/-! frames -/
section FR
variable {M M' : Mem}
theorem RRow.fr (h : RRow M) (he : ∀ (b : Nat) (j : Int), (3 ≤ b ∧ b ≤ 12) ∨ (279 ≤ b ∧ b ≤ 282) → M' b j = M b j) : RRow M' := by
  intro r h0 h1
  have q := h r h0 h1
  rw [he 12 r (by omega), he 280 r (by omega), he 281 r (by omega), he 279 r (by omega), he 11 r (by omega)]
  refine ⟨q.1, q.2.1, q.2.2.1, q.2.2.2.1, ?_⟩
  rcases q.2.2.2.2 with p | ⟨p1, p2, p3, p4, p5⟩
  · exact Or.inl p
  · refine Or.inr ⟨p1, p2, p3, p4, fun i i0 i1 => ?_⟩
    rw [he 282 _ (by omega), he (3 + r.toNat) i (by omega)]
    exact p5 i i0 i1
theorem RSt.fr (h : RSt M) (h1 : M' 0 13 = M 0 13) (h2 : M' 273 6 = M 273 6) : RSt M' := by
  show M' 0 13 = M' 273 6
  rw [h1, h2]
  exact h
theorem RFa.fr (h : RFa M) (h1 : M' 0 12 = M 0 12) (h2 : M' 273 14 = M 273 14) : RFa M' := by
  show M' 0 12 = M' 273 14
  rw [h1, h2]
  exact h
theorem RTape.fr (h : RTape M) (h1 : ∀ j, M' 13 j = M 13 j) (h2 : ∀ j, M' 14 j = M 14 j) (h3 : M' 273 13 = M 273 13) (h4 : ∀ j, M' 284 j = M 284 j) : RTape M' := by
  obtain ⟨a1, a2, a3, a4⟩ := h
  unfold RTape
  rw [h1, h3]
  refine ⟨a1, a2, a3, fun i i0 i1 => ?_⟩
  rw [h2, h4]
  exact a4 i i0 i1
theorem ImR.fr {k : Nat} (hk : k ≤ 1) (h : ImR M k) (he : ∀ (b : Nat) (j : Int), (250 ≤ b ∧ b ≤ 272) ∨ b = 275 ∨ b = 276 ∨ (b = 0 ∧ j = 11) → M' b j = M b j) : ImR M' k := by
  obtain ⟨h1, h2⟩ := h
  unfold ImR
  rw [he 250 _ (by omega), he 276 _ (by omega), he 275 _ (by omega), he 0 11 (by omega)]
  refine ⟨h1, h2.imp id (fun q => ⟨q.1, q.2.1, ?_⟩)⟩
  obtain ⟨K, T, p1, p2, p3, p4, p5, p6, p7, p8⟩ := q.2.2
  exact ⟨K, T, p1, p2, p3, p4.fr (fun b j b0 b1 => he b j (by omega)), p5.fr (fun b j b0 b1 => he b j (by omega)), p6.fr (fun j => he 275 _ (by omega)), p7.off (fun j => he 275 _ (by omega)), p8⟩
theorem RTr.fr (h : RTr M) (h1 : ∀ j, M' 246 j = M 246 j) (h2 : ∀ j, M' 247 j = M 247 j) (h3 : M' 273 21 = M 273 21) (h4 : ∀ j, M' 288 j = M 288 j) : RTr M' := by
  obtain ⟨a1, a2, a3, a4⟩ := h
  unfold RTr
  rw [h1, h3]
  refine ⟨a1, a2, a3, fun i i0 i1 => ?_⟩
  rw [h2, h4]
  exact a4 i i0 i1
theorem TwR.fr {K : Kt} {T : Tt} {L : List Tt} (h : TwR M K T L) (he : ∀ (b : Nat) (j : Int), (20 ≤ b ∧ b ≤ 176) ∨ b = 274 ∨ b = 277 → M' b j = M b j) (h1 : M' 0 11 = M 0 11) (h2 : M' 273 4 = M 273 4) : TwR M' K T L := by
  obtain ⟨a1, a2, a3, a4, a5, a6, a7, a8, a9, a10, a11⟩ := h
  refine ⟨a1, a2, a3, a4.fr (fun b j b0 b1 => he b j (by omega)), a5.fr (fun b j b0 b1 => he b j (by omega)), a6.fr (fun j => he 274 j (by omega)), a7.off (fun j => he 274 j (by omega)), a8.fr (fun b j b0 b1 => he b j (by omega)), a9.fr h2 (fun j => he 277 j (by omega)), a10, ?_⟩
  rw [h1, he 274 231 (by omega)]
  exact a11
/-- what foretelling may change -/
def Scr (M M' : Mem) : Prop := ∀ (b : Nat) (j : Int), ¬ (177 ≤ b ∧ b ≤ 245) → b ≠ 278 → b ≠ 283 → b ≠ 286 → b ≠ 287 → M' b j = M b j
theorem Rel.scr (h : Rel M) (hs : Scr M M') : Rel M' := by
  obtain ⟨a1, a2, a3, a4, ⟨K, T, L, a5⟩, ⟨a6, a7⟩, a8⟩ := h
  refine ⟨a1.fr (fun b j hb => hs b j (by omega) (by omega) (by omega) (by omega) (by omega)), a2.fr (hs _ _ (by omega) (by omega) (by omega) (by omega) (by omega)) (hs _ _ (by omega) (by omega) (by omega) (by omega) (by omega)), a3.fr (hs _ _ (by omega) (by omega) (by omega) (by omega) (by omega)) (hs _ _ (by omega) (by omega) (by omega) (by omega) (by omega)), a4.fr (fun j => hs _ _ (by omega) (by omega) (by omega) (by omega) (by omega)) (fun j => hs _ _ (by omega) (by omega) (by omega) (by omega) (by omega)) (hs _ _ (by omega) (by omega) (by omega) (by omega) (by omega)) (fun j => hs _ _ (by omega) (by omega) (by omega) (by omega) (by omega)), ⟨K, T, L, a5.fr (fun b j hb => hs b j (by omega) (by omega) (by omega) (by omega) (by omega)) (hs _ _ (by omega) (by omega) (by omega) (by omega) (by omega)) (hs _ _ (by omega) (by omega) (by omega) (by omega) (by omega))⟩, ⟨a6.fr (by decide) (fun b j hb => hs b j (by omega) (by omega) (by omega) (by omega) (by omega)), a7.fr (by decide) (fun b j hb => hs b j (by omega) (by omega) (by omega) (by omega) (by omega))⟩, a8.fr (fun j => hs _ _ (by omega) (by omega) (by omega) (by omega) (by omega)) (fun j => hs _ _ (by omega) (by omega) (by omega) (by omega) (by omega)) (hs _ _ (by omega) (by omega) (by omega) (by omega) (by omega)) (fun j => hs _ _ (by omega) (by omega) (by omega) (by omega) (by omega))⟩
end FR
/-- both answer the same, and stay related -/
def Two (d e r : Nat) (le lr : Lv) (M : Mem) : Prop := Ok d e 0 le [] M (fun v1 M1 => Ok d r 0 lr [] M1 (fun v2 M2 => ∃ z : Int, v1 = some (vI z) ∧ v2 = some (vI z) ∧ Rel M2))
theorem Rel.st2 {M : Mem} (h : Rel M) (x : Int) : Rel (mu (mu M 0 13 x) 273 6 x) := by
  obtain ⟨a1, a2, a3, a4, ⟨K, T, L, a5⟩, ⟨a6, a7⟩, a8⟩ := h
  have hs : ∀ (b : Nat) (j : Int), ¬ (b = 0 ∧ j = 13) → ¬ (b = 273 ∧ j = 6) → mu (mu M 0 13 x) 273 6 x b j = M b j := fun b j h0 h1 => (if_neg h1).trans (if_neg h0)
  refine ⟨a1.fr (fun b j hb => hs b j (by omega) (by omega)), ?_, a3.fr (hs _ _ (by omega) (by omega)) (hs _ _ (by omega) (by omega)), a4.fr (fun j => hs _ _ (by omega) (by omega)) (fun j => hs _ _ (by omega) (by omega)) (hs _ _ (by omega) (by omega)) (fun j => hs _ _ (by omega) (by omega)), ⟨K, T, L, a5.fr (fun b j hb => hs b j (by omega) (by omega)) (hs _ _ (by omega) (by omega)) (hs _ _ (by omega) (by omega))⟩, ⟨a6.fr (by decide) (fun b j hb => hs b j (by omega) (by omega)), a7.fr (by decide) (fun b j hb => hs b j (by omega) (by omega))⟩, a8.fr (fun j => hs _ _ (by omega) (by omega)) (fun j => hs _ _ (by omega) (by omega)) (hs _ _ (by omega) (by omega)) (fun j => hs _ _ (by omega) (by omega))⟩
  show mu (mu M 0 13 x) 273 6 x 0 13 = mu (mu M 0 13 x) 273 6 x 273 6
  rw [mu_s, mu_ne (by decide), mu_s]
