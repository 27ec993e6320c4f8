/-! pairs: rows -/
theorem Rel.rows {M M' : Mem} (h : Rel M) (hs : ∀ (b : Nat) (j : Int), ¬ (3 ≤ b ∧ b ≤ 12) → ¬ (279 ≤ b ∧ b ≤ 283) → ¬ (b = 0 ∧ j = 13) → ¬ (b = 273 ∧ j = 6) → M' b j = M b j) (h1 : RRow M') (h2 : RSt M') : Rel M' := by
  obtain ⟨a1, a2, a3, a4, ⟨K, T, L, a5⟩, ⟨a6, a7⟩, a8⟩ := h
  exact ⟨h1, h2, a3.fr (hs _ _ (by omega) (by omega) (by omega) (by omega)) (hs _ _ (by omega) (by omega) (by omega) (by omega)), a4.fr (fun j => hs _ _ (by omega) (by omega) (by omega) (by omega)) (fun j => hs _ _ (by omega) (by omega) (by omega) (by omega)) (hs _ _ (by omega) (by omega) (by omega) (by omega)) (fun j => hs _ _ (by omega) (by omega) (by omega) (by omega)), ⟨K, T, L, a5.fr (fun b j hb => hs b j (by omega) (by omega) (by omega) (by omega)) (hs _ _ (by omega) (by omega) (by omega) (by omega)) (hs _ _ (by omega) (by omega) (by omega) (by omega))⟩, ⟨a6.fr (by decide) (fun b j hb => hs b j (by omega) (by omega) (by omega) (by omega)), a7.fr (by decide) (fun b j hb => hs b j (by omega) (by omega) (by omega) (by omega))⟩, a8.fr (fun j => hs _ _ (by omega) (by omega) (by omega) (by omega)) (fun j => hs _ _ (by omega) (by omega) (by omega) (by omega)) (hs _ _ (by omega) (by omega) (by omega) (by omega)) (fun j => hs _ _ (by omega) (by omega) (by omega) (by omega))⟩
theorem rst (M : Mem) (x : Int) {A : Mem → Mem} (hA : ∀ N : Mem, A N 0 13 = N 0 13) : RSt (mu (A (mu M 0 13 x)) 273 6 x) := by
  show mu (A (mu M 0 13 x)) 273 6 x 0 13 = mu (A (mu M 0 13 x)) 273 6 x 273 6
  rw [mu_s, mu_ne (by decide), hA, mu_s]
theorem t_drop {d : Nat} {M : Mem} {r : Int} (h : Rel M) : Two (d + 2) 88 129 [some (vR (some 0)), some (vI r)] [some (vR (some 273)), some (vI r)] M := by
  refine c_88 (d := d + 1) (fun k => ?_) (fun k k2 => ?_) (fun k k2 => ?_)
  · refine c_129 (fun _ => ⟨_, rfl, rfl, h⟩) (fun q _ => absurd q k) (fun q _ => absurd q k)
  · have q := (h.1 r k.1 k.2).2.2.2.2
    refine c_129 (fun q2 => absurd k q2) (fun _ _ => ⟨_, rfl, rfl, h.st2 1⟩) (fun _ q2 => ?_)
    rw [mu_ne (by decide)] at q2
    omega
  · have q := (h.1 r k.1 k.2).2.2.2.2
    refine c_129 (fun q2 => absurd k q2) (fun _ q2 => ?_) (fun _ q2 => ⟨M 12 r, rfl, ?_, ?_⟩)
    · rw [mu_ne (by decide), mu_ne (by decide)] at q2
      omega
    · rw [mu_ne (by decide), mu_ne (by decide), mu_ne (by decide)]
      rcases q with q | q
      · exact absurd q.1 k2
      · rw [q.2.2.1]
    · refine h.rows (fun b j h0 h1 h2 h3 => ?_) (fun s s0 s1 => ?_) ?_
      · rw [show mu (mu (mu (mu M 12 r (-1)) 0 13 0) 281 r 0) 273 6 0 b j = mu (mu (mu M 12 r (-1)) 0 13 0) 281 r 0 b j from if_neg h3, mu_ne (by omega), show mu (mu M 12 r (-1)) 0 13 0 b j = mu M 12 r (-1) b j from if_neg h2, mu_ne (by omega)]
      · have p := h.1 s s0 s1
        by_cases e : s = r
        · subst e
          rw [mu_ne (by decide), mu_ne (by decide), mu_ne (by decide), mu_s, mu_ne (by decide), mu_ne (by decide), mu_ne (by decide), mu_ne (by decide), mu_ne (by decide), mu_s]
          exact ⟨by omega, by omega, p.2.2.1, p.2.2.2.1, Or.inl ⟨rfl, rfl⟩⟩
        · have x1 : mu (mu (mu (mu M 12 r (-1)) 0 13 0) 281 r 0) 273 6 0 12 s = M 12 s := by rw [mu_ne (by decide), mu_ne (by decide), mu_ne (by decide), mu_j e]
          have x2 : mu (mu (mu (mu M 12 r (-1)) 0 13 0) 281 r 0) 273 6 0 281 s = M 281 s := by rw [mu_ne (by decide), mu_j e, mu_ne (by decide), mu_ne (by decide)]
          have x3 : ∀ (b : Nat) (j : Int), b ≠ 12 → b ≠ 0 → b ≠ 281 → b ≠ 273 → mu (mu (mu (mu M 12 r (-1)) 0 13 0) 281 r 0) 273 6 0 b j = M b j := fun b j b0 b1 b2 b3 => by rw [mu_ne b3, mu_ne b2, mu_ne b1, mu_ne b0]
          rw [x1, x2, x3 280 s (by decide) (by decide) (by decide) (by decide), x3 279 s (by decide) (by decide) (by decide) (by decide), x3 11 s (by decide) (by decide) (by decide) (by decide)]
          refine ⟨p.1, p.2.1, p.2.2.1, p.2.2.2.1, p.2.2.2.2.imp id (fun w => ⟨w.1, w.2.1, w.2.2.1, w.2.2.2.1, fun i i0 i1 => ?_⟩)⟩
          rw [x3 282 _ (by decide) (by decide) (by decide) (by decide), x3 (3 + s.toNat) _ (by omega) (by omega) (by omega) (by omega)]
          exact w.2.2.2.2 i i0 i1
      · show mu (mu (mu (mu M 12 r (-1)) 0 13 0) 281 r 0) 273 6 0 0 13 = mu (mu (mu (mu M 12 r (-1)) 0 13 0) 281 r 0) 273 6 0 273 6
        rw [mu_s, mu_ne (by decide), mu_ne (by decide), mu_s]
