def RR1 (M : Mem) (r : Int) : Prop := -1 ≤ M 12 r ∧ M 12 r ≤ 40 ∧ 0 ≤ M 280 r ∧ M 280 r ≤ 40 ∧ ((M 12 r = -1 ∧ M 281 r = 0) ∨ (0 ≤ M 12 r ∧ M 281 r = 1 ∧ M 280 r = M 12 r ∧ M 279 r = M 11 r ∧ ∀ i : Int, 0 ≤ i → i < M 12 r → M 282 (40 * r + i) = M (3 + r.toNat) i))
theorem RRow.one {M M' : Mem} (h : RRow M) (r : Int) (hs : ∀ (b : Nat) (j : Int), (b = 11 ∨ b = 12 ∨ b = 279 ∨ b = 280 ∨ b = 281) → j ≠ r → M' b j = M b j) (hi : ∀ s : Int, 0 ≤ s → s < 8 → s ≠ r → ∀ i : Int, 0 ≤ i → i < 40 → M' 282 (40 * s + i) = M 282 (40 * s + i) ∧ M' (3 + s.toNat) i = M (3 + s.toNat) i) (hr : 0 ≤ r → r < 8 → RR1 M' r) : RRow M' := by
  intro s s0 s1
  by_cases e : s = r
  · subst e; exact hr s0 s1
  · have p := h s s0 s1
    rw [hs 12 s (by omega) e, hs 280 s (by omega) e, hs 281 s (by omega) e, hs 279 s (by omega) e, hs 11 s (by omega) e]
    refine ⟨p.1, p.2.1, p.2.2.1, p.2.2.2.1, p.2.2.2.2.imp id (fun w => ⟨w.1, w.2.1, w.2.2.1, w.2.2.2.1, fun i i0 i1 => ?_⟩)⟩
    obtain ⟨q1, q2⟩ := hi s s0 s1 e i i0 (by omega)
    rw [q1, q2]
    exact w.2.2.2.2 i i0 i1
theorem tp_set {d : Nat} {M : Mem} {r i v : Int} (h : Rel M) : Two (d + 2) 86 127 [some (vR (some 0)), some (vI r), some (vI i), some (vI v)] [some (vR (some 273)), some (vI r), some (vI i), some (vI v), none] M := by
  have hc : ∀ r : Int, 0 ≤ r → r < 8 → -1 ≤ M 12 r ∧ M 12 r ≤ 40 := fun r r0 r1 => ⟨(h.1 r r0 r1).1, (h.1 r r0 r1).2.1⟩
  have hm : ∀ (x : Int) (r : Int), 0 ≤ r → r < 8 → 0 ≤ mu M 0 13 x 280 r ∧ mu M 0 13 x 280 r ≤ 40 := fun x r r0 r1 => by rw [mu_ne (by decide)]; exact ⟨(h.1 r r0 r1).2.2.1, (h.1 r r0 r1).2.2.2.1⟩
  refine c_86 (d := d + 1) hc (fun k => ?_) (fun k k2 => ?_) (fun k k2 k3 => ?_) (fun k k2 k3 => ?_)
  · refine c_127 (fun r r0 r1 => ⟨(h.1 r r0 r1).2.2.1, (h.1 r r0 r1).2.2.2.1⟩) (fun _ => ⟨_, rfl, rfl, h⟩) (fun q _ => absurd q k) (fun q _ _ => absurd q k) (fun q _ _ => absurd q k)
  · have q := (h.1 r k.1 k.2).2.2.2.2
    refine c_127 (hm 1) (fun q2 => absurd k q2) (fun _ _ => ⟨_, rfl, rfl, h.st2 1⟩) (fun _ q2 _ => ?_) (fun _ q2 _ => ?_)
    · rw [mu_ne (by decide)] at q2
      omega
    · rw [mu_ne (by decide)] at q2
      omega
  · have q := (h.1 r k.1 k.2).2.2.2.2
    refine c_127 (hm 2) (fun q2 => absurd k q2) (fun _ q2 => ?_) (fun _ q2 q3 => ⟨_, rfl, rfl, h.st2 2⟩) (fun _ q2 q3 => ?_)
    · rw [mu_ne (by decide)] at q2
      omega
    · rw [mu_ne (by decide)] at q3
      omega
  · have q := ((h.1 r k.1 k.2).2.2.2.2).resolve_left (fun q => k2 q.1)
    have hr40 := (h.1 r k.1 k.2).2.1
    obtain ⟨c, hcc⟩ : ∃ c, c = cutF (M 11 r) v := ⟨_, rfl⟩
    rw [← hcc]
    obtain ⟨N, hN⟩ : ∃ N : Mem, N = mu (mu M (3 + r.toNat) i c) 0 13 0 := ⟨_, rfl⟩
    rw [← hN]
    have hn : ∀ (b : Nat) (j : Int), b ≠ 3 + r.toNat → b ≠ 0 → N b j = M b j := fun b j b0 b1 => by rw [hN, mu_ne b1, mu_ne b0]
    have e1 : cutF (N 279 r) v = c := by rw [hn _ _ (by omega) (by omega), q.2.2.2.1]; exact hcc.symm
    refine c_127 (fun s s0 s1 => by rw [hn _ _ (by omega) (by omega)]; exact ⟨(h.1 s s0 s1).2.2.1, (h.1 s s0 s1).2.2.2.1⟩) (fun q2 => absurd k q2) (fun _ q2 => ?_) (fun _ q2 q3 => ?_) (fun _ q2 q3 => ⟨c, rfl, by rw [e1], ?_⟩)
    · rw [hn _ _ (by omega) (by omega)] at q2
      omega
    · rw [hn _ _ (by omega) (by omega)] at q3
      omega
    · rw [e1]
      refine h.rows (fun b j h0 h1 h2 h3 => ?_) (h.1.one r (fun b j hb hj => ?_) (fun s s0 s1 hs j j0 j1 => ?_) (fun r0 r1 => ?_)) ?_
      · rw [show mu (mu N 282 (40 * r + i) c) 273 6 0 b j = mu N 282 (40 * r + i) c b j from if_neg h3, mu_ne (by omega), hN, show mu (mu M (3 + r.toNat) i c) 0 13 0 b j = mu M (3 + r.toNat) i c b j from if_neg h2, mu_ne (by omega)]
      · rw [mu_ne (by omega), mu_ne (by omega), hn _ _ (by omega) (by omega)]
      · constructor
        · rw [mu_ne (by decide), mu_j (by omega), hn _ _ (by omega) (by decide)]
        · rw [mu_ne (by omega), mu_ne (by omega), hn _ _ (by omega) (by omega)]
      · have x : ∀ b : Nat, b ≠ 3 + r.toNat → b ≠ 0 → b ≠ 282 → b ≠ 273 → ∀ j, mu (mu N 282 (40 * r + i) c) 273 6 0 b j = M b j := fun b b0 b1 b2 b3 j => by rw [mu_ne b3, mu_ne b2, hn _ _ b0 b1]
        unfold RR1
        rw [x 12 (by omega) (by omega) (by omega) (by omega), x 280 (by omega) (by omega) (by omega) (by omega), x 281 (by omega) (by omega) (by omega) (by omega), x 279 (by omega) (by omega) (by omega) (by omega), x 11 (by omega) (by omega) (by omega) (by omega)]
        have p := h.1 r k.1 k.2
        refine ⟨p.1, p.2.1, p.2.2.1, p.2.2.2.1, Or.inr ⟨q.1, q.2.1, q.2.2.1, q.2.2.2.1, fun j j0 j1 => ?_⟩⟩
        rw [mu_ne (by decide), mu_ne (b := 3 + r.toNat) (by omega), mu_ne (b := 3 + r.toNat) (by omega)]
        by_cases e : j = i
        · rw [e, mu_s, hN, mu_ne (by omega), mu_s]
        · rw [mu_j (by omega), hn _ _ (by omega) (by decide), hN, mu_ne (by omega), mu_j e]
          exact q.2.2.2.2 j j0 j1
      · show mu (mu N 282 (40 * r + i) c) 273 6 0 0 13 = mu (mu N 282 (40 * r + i) c) 273 6 0 273 6
        rw [mu_s, mu_ne (by decide), mu_ne (by decide), hN, mu_s]
theorem tp_row {d : Nat} {M : Mem} {r lane n : Int} (h : Rel M) : Two (d + 2) 85 126 [some (vR (some 0)), some (vI r), some (vI lane), some (vI n)] [some (vR (some 273)), some (vI r), some (vI lane), some (vI n), none] M := by
  refine c_85 (d := d + 1) (fun k => ?_) (fun k => ?_) (fun k => ?_)
  · exact c_126 (fun _ => ⟨_, rfl, rfl, h⟩) (fun q => absurd (by omega) k) (fun q => absurd (by omega) k)
  · exact c_126 (fun q => absurd (by omega) q) (fun _ => ⟨_, rfl, rfl, h.st2 4⟩) (fun q => by omega)
  · refine c_126 (fun q => absurd (by omega) q) (fun q => by omega) (fun _ => ⟨n, rfl, rfl, ?_⟩)
    obtain ⟨N, hN⟩ : ∃ N : Mem, N = mu (mfill (mu (mu M 11 r lane) 12 r n) (3 + r.toNat) 0 n 0) 0 13 0 := ⟨_, rfl⟩
    rw [← hN]
    have hn : ∀ (b : Nat) (j : Int), b ≠ 3 + r.toNat → b ≠ 0 → b ≠ 11 → b ≠ 12 → N b j = M b j := fun b j b0 b1 b2 b3 => by
      rw [hN, mu_ne b1]
      unfold mfill
      rw [if_neg (fun q => b0 q.1), mu_ne b3, mu_ne b2]
    obtain ⟨P, hP⟩ : ∃ P : Mem, P = mu (mfill (mu (mu (mu N 281 r 1) 279 r lane) 280 r n) 282 (40 * r) (40 * r + 40) 0) 273 6 0 := ⟨_, rfl⟩
    rw [← hP]
    have hp : ∀ (b : Nat) (j : Int), b ≠ 281 → b ≠ 279 → b ≠ 280 → b ≠ 282 → ¬ (b = 273 ∧ j = 6) → P b j = N b j := fun b j b0 b1 b2 b3 b4 => by
      rw [hP]
      refine (if_neg b4).trans ?_
      unfold mfill
      rw [if_neg (fun q => b3 q.1), mu_ne b2, mu_ne b1, mu_ne b0]
    refine h.rows (fun b j h0 h1 h2 h3 => ?_) (h.1.one r (fun b j hb hj => ?_) (fun s s0 s1 hs j j0 j1 => ?_) (fun r0 r1 => ?_)) ?_
    · rw [hp b j (by omega) (by omega) (by omega) (by omega) h3, hN]
      refine (if_neg h2).trans ?_
      unfold mfill
      rw [if_neg (by omega), mu_ne (by omega), mu_ne (by omega)]
    · rw [hP, mu_ne (by omega)]
      unfold mfill
      rw [if_neg (by omega), mu_j hj, mu_j hj, mu_j hj, hN, mu_ne (by omega)]
      unfold mfill
      rw [if_neg (by omega), mu_j hj, mu_j hj]
    · constructor
      · rw [hP, mu_ne (by decide)]
        unfold mfill
        rw [if_neg (by omega), mu_ne (by decide), mu_ne (by decide), mu_ne (by decide), hn _ _ (by omega) (by decide) (by decide) (by decide)]
      · rw [hp _ _ (by omega) (by omega) (by omega) (by omega) (by omega), hn _ _ (by omega) (by omega) (by omega) (by omega)]
    · have x12 : P 12 r = n := by
        rw [hp _ _ (by decide) (by decide) (by decide) (by decide) (by omega), hN, mu_ne (by decide)]
        unfold mfill
        rw [if_neg (by omega), mu_s]
      have x11 : P 11 r = lane := by
        rw [hp _ _ (by decide) (by decide) (by decide) (by decide) (by omega), hN, mu_ne (by decide)]
        unfold mfill
        rw [if_neg (by omega), mu_ne (by decide), mu_s]
      have x280 : P 280 r = n := by
        rw [hP, mu_ne (by decide)]
        unfold mfill
        rw [if_neg (by omega), mu_s]
      have x279 : P 279 r = lane := by
        rw [hP, mu_ne (by decide)]
        unfold mfill
        rw [if_neg (by omega), mu_ne (by decide), mu_s]
      have x281 : P 281 r = 1 := by
        rw [hP, mu_ne (by decide)]
        unfold mfill
        rw [if_neg (by omega), mu_ne (by decide), mu_ne (by decide), mu_s]
      unfold RR1
      rw [x12, x11, x280, x279, x281]
      refine ⟨by omega, by omega, by omega, by omega, Or.inr ⟨by omega, rfl, rfl, rfl, fun i i0 i1 => ?_⟩⟩
      have y1 : P 282 (40 * r + i) = 0 := by
        rw [hP, mu_ne (by decide)]
        unfold mfill
        rw [if_pos (by omega)]
      have y2 : P (3 + r.toNat) i = 0 := by
        rw [hp _ _ (by omega) (by omega) (by omega) (by omega) (by omega), hN, mu_ne (by omega)]
        unfold mfill
        rw [if_pos (by omega)]
      rw [y1, y2]
    · show P 0 13 = P 273 6
      rw [hp _ _ (by decide) (by decide) (by decide) (by decide) (by omega), hN, mu_s, hP, mu_s]
