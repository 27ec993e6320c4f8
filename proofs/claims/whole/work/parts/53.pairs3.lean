theorem tp_copy {d : Nat} {M : Mem} {a i b j n : Int} (h : Rel M) (hii : inR i) (hij : inR j) (hin : inR n) : Two (d + 2) 87 128 [some (vR (some 0)), some (vI a), some (vI i), some (vI b), some (vI j), some (vI n)] [some (vR (some 273)), some (vI a), some (vI i), some (vI b), some (vI j), some (vI n), none] M := by
  have hc : ∀ r : Int, 0 ≤ r → r < 8 → -1 ≤ M 12 r ∧ M 12 r ≤ 40 := fun r r0 r1 => ⟨(h.1 r r0 r1).1, (h.1 r r0 r1).2.1⟩
  have hm : ∀ (x : Int) (r : Int), 0 ≤ r → r < 8 → 0 ≤ mu M 0 13 x 280 r ∧ mu M 0 13 x 280 r ≤ 40 := fun x r r0 r1 => by rw [mu_ne (by decide)]; exact ⟨(h.1 r r0 r1).2.2.1, (h.1 r r0 r1).2.2.2.1⟩
  have h8 : (0 ≤ a ∧ a < 8 ∧ 0 ≤ b ∧ b < 8) → ((M 12 a = -1 ∧ M 281 a = 0) ∨ (0 ≤ M 12 a ∧ M 281 a = 1 ∧ M 280 a = M 12 a ∧ M 279 a = M 11 a)) ∧ ((M 12 b = -1 ∧ M 281 b = 0) ∨ (0 ≤ M 12 b ∧ M 281 b = 1 ∧ M 280 b = M 12 b ∧ M 279 b = M 11 b)) := fun k => ⟨(h.1 a k.1 k.2.1).2.2.2.2.imp id (fun w => ⟨w.1, w.2.1, w.2.2.1, w.2.2.2.1⟩), (h.1 b k.2.2.1 k.2.2.2).2.2.2.2.imp id (fun w => ⟨w.1, w.2.1, w.2.2.1, w.2.2.2.1⟩)⟩
  refine c_87 (d := d + 1) hc (fun k => ?_) (fun k k2 => ?_) (fun k k2 k3 => ?_) (fun k k2 k3 k4 => ?_) (fun k k2 k3 k4 => ?_)
  · exact c_128 (fun r r0 r1 => ⟨(h.1 r r0 r1).2.2.1, (h.1 r r0 r1).2.2.2.1⟩) hii hij hin (fun _ => ⟨_, rfl, rfl, h⟩) (fun q _ => absurd q k) (fun q _ _ => absurd q k) (fun q _ _ _ => absurd q k) (fun q _ _ _ => absurd q k)
  · have q := h8 k
    have no : ¬ (¬ mu M 0 13 1 281 a = 0 ∧ ¬ mu M 0 13 1 281 b = 0) := by
      rw [mu_ne (by decide), mu_ne (by decide)]
      omega
    exact c_128 (hm 1) hii hij hin (fun q2 => absurd k q2) (fun _ _ => ⟨_, rfl, rfl, h.st2 1⟩) (fun _ q2 _ => absurd q2 no) (fun _ q2 _ _ => absurd q2 no) (fun _ q2 _ _ => absurd q2 no)
  · have q := h8 k
    have ys : ¬ mu M 0 13 5 281 a = 0 ∧ ¬ mu M 0 13 5 281 b = 0 := by
      rw [mu_ne (by decide), mu_ne (by decide)]
      omega
    have no : ¬ mu M 0 13 5 279 a = mu M 0 13 5 279 b := by
      rw [mu_ne (by decide), mu_ne (by decide)]
      omega
    exact c_128 (hm 5) hii hij hin (fun q2 => absurd k q2) (fun _ q2 => absurd ys q2) (fun _ _ _ => ⟨_, rfl, rfl, h.st2 5⟩) (fun _ _ q2 _ => absurd q2 no) (fun _ _ q2 _ => absurd q2 no)
  · have q := h8 k
    have ys : ¬ mu M 0 13 2 281 a = 0 ∧ ¬ mu M 0 13 2 281 b = 0 := by
      rw [mu_ne (by decide), mu_ne (by decide)]
      omega
    have no : mu M 0 13 2 279 a = mu M 0 13 2 279 b := by
      rw [mu_ne (by decide), mu_ne (by decide)]
      omega
    refine c_128 (hm 2) hii hij hin (fun q2 => absurd k q2) (fun _ q2 => absurd ys q2) (fun _ _ q2 => absurd no q2) (fun _ _ _ _ => ⟨_, rfl, rfl, h.st2 2⟩) (fun _ _ _ q2 => absurd ?_ k4)
    rw [mu_ne (by decide), mu_ne (by decide)] at q2
    omega
  · have q := h8 k
    obtain ⟨N, hN⟩ : ∃ N : Mem, N = mu (mcp M (3 + a.toNat) i (3 + b.toNat) j n) 0 13 0 := ⟨_, rfl⟩
    rw [← hN]
    have hn : ∀ (c : Nat) (x : Int), c ≠ 3 + b.toNat → c ≠ 0 → N c x = M c x := fun c x c0 c1 => by rw [hN, mu_ne c1, mcp_ne c0]
    have ys : ¬ N 281 a = 0 ∧ ¬ N 281 b = 0 := by
      rw [hn _ _ (by omega) (by decide), hn _ _ (by omega) (by decide)]
      omega
    have no : N 279 a = N 279 b := by
      rw [hn _ _ (by omega) (by decide), hn _ _ (by omega) (by decide)]
      omega
    refine c_128 (fun s s0 s1 => by rw [hn _ _ (by omega) (by decide)]; exact ⟨(h.1 s s0 s1).2.2.1, (h.1 s s0 s1).2.2.2.1⟩) hii hij hin (fun q2 => absurd k q2) (fun _ q2 => absurd ys q2) (fun _ _ q2 => absurd no q2) (fun _ _ _ q2 => absurd (by rw [hn _ _ (by omega) (by decide), hn _ _ (by omega) (by decide)]; omega) q2) (fun _ _ _ _ => ⟨n, rfl, rfl, ?_⟩)
    obtain ⟨P, hP⟩ : ∃ P : Mem, P = mu (mcp (mcp N 282 (40 * a + i) 283 0 n) 283 0 282 (40 * b + j) n) 273 6 0 := ⟨_, rfl⟩
    rw [← hP]
    have ha40 := (h.1 a k.1 k.2.1).2.1
    have hb40 := (h.1 b k.2.2.1 k.2.2.2).2.1
    have hp : ∀ (c : Nat) (x : Int), c ≠ 282 → c ≠ 283 → ¬ (c = 273 ∧ x = 6) → P c x = N c x := fun c x c0 c1 c2 => by
      rw [hP]
      refine (if_neg c2).trans ?_
      rw [mcp_ne c0, mcp_ne c1]
    have hp2 : ∀ x : Int, ¬ (40 * b + j ≤ x ∧ x < 40 * b + j + n) → P 282 x = M 282 x := fun x hx => by
      rw [hP, mu_ne (by decide)]
      have e : mcp (mcp N 282 (40 * a + i) 283 0 n) 283 0 282 (40 * b + j) n 282 x = mcp N 282 (40 * a + i) 283 0 n 282 x := if_neg (fun q => hx q.2)
      rw [e, mcp_ne (by decide), hn _ _ (by omega) (by decide)]
    have hp3 : ∀ x : Int, 40 * b + j ≤ x ∧ x < 40 * b + j + n → P 282 x = M 282 (40 * a + i + (x - (40 * b + j))) := fun x hx => by
      rw [hP, mu_ne (by decide), mcp_in hx, mcp_in (by omega), hn _ _ (by omega) (by decide)]
      congr 1
      omega
    refine h.rows (fun c x h0 h1 h2 h3 => ?_) (h.1.one b (fun c x hb hj => ?_) (fun s s0 s1 hs x x0 x1 => ?_) (fun r0 r1 => ?_)) ?_
    · rw [hp c x (by omega) (by omega) h3, hN]
      refine (if_neg h2).trans ?_
      rw [mcp_ne (by omega)]
    · rw [hp _ _ (by omega) (by omega) (by omega), hn _ _ (by omega) (by omega)]
    · constructor
      · exact hp2 _ (by omega)
      · rw [hp _ _ (by omega) (by omega) (by omega), hn _ _ (by omega) (by omega)]
    · have x : ∀ c : Nat, c ≠ 3 + b.toNat → c ≠ 0 → c ≠ 282 → c ≠ 283 → c ≠ 273 → ∀ z, P c z = M c z := fun c b0 b1 b2 b3 b4 z => by rw [hp c z b2 b3 (by omega), hn _ _ b0 b1]
      have p := h.1 b k.2.2.1 k.2.2.2
      unfold RR1
      rw [x 12 (by omega) (by omega) (by omega) (by omega) (by omega), x 280 (by omega) (by omega) (by omega) (by omega) (by omega), x 281 (by omega) (by omega) (by omega) (by omega) (by omega), x 279 (by omega) (by omega) (by omega) (by omega) (by omega), x 11 (by omega) (by omega) (by omega) (by omega) (by omega)]
      refine ⟨p.1, p.2.1, p.2.2.1, p.2.2.2.1, p.2.2.2.2.imp id (fun w => ⟨w.1, w.2.1, w.2.2.1, w.2.2.2.1, fun z z0 z1 => ?_⟩)⟩
      have ez : P (3 + b.toNat) z = mcp M (3 + a.toNat) i (3 + b.toNat) j n (3 + b.toNat) z := by rw [hp _ _ (by omega) (by omega) (by omega), hN, mu_ne (by omega)]
      rw [ez]
      by_cases e : j ≤ z ∧ z < j + n
      · rw [hp3 _ (by omega), mcp_in e]
        have wa := ((h.1 a k.1 k.2.1).2.2.2.2.resolve_left (fun q => by omega)).2.2.2.2 (i + (z - j)) (by omega) (by omega)
        rw [← wa]
        congr 1
        omega
      · rw [hp2 _ (by omega)]
        have e2 : mcp M (3 + a.toNat) i (3 + b.toNat) j n (3 + b.toNat) z = M (3 + b.toNat) z := if_neg (fun q => e q.2)
        rw [e2]
        exact w.2.2.2.2 z z0 z1
    · show P 0 13 = P 273 6
      rw [hp _ _ (by decide) (by decide) (by omega), hN, mu_s, hP, mu_s]
