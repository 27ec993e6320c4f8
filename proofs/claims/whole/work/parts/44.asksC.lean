/-! asks -/
def ap (c0 c1 : Nat) (f : Int) (M : Mem) (b : Int) : Mem := mu (mu M c1 (M c0 f) b) c0 f (M c0 f + 1)
def apL (c0 c1 : Nat) (f : Int) (M : Mem) (l : List Int) : Mem := match l with
  | [] => M
  | b :: l => apL c0 c1 f (ap c0 c1 f M b) l
theorem ap_ne {c0 c1 : Nat} {f : Int} {M : Mem} {b : Int} {c : Nat} (h0 : c ≠ c0) (h1 : c ≠ c1) (j : Int) : ap c0 c1 f M b c j = M c j := by
  unfold ap
  rw [mu_ne h0, mu_ne h1]
theorem apL_ne {c0 c1 : Nat} {f : Int} {c : Nat} (h0 : c ≠ c0) (h1 : c ≠ c1) (j : Int) : ∀ (l : List Int) (M : Mem), apL c0 c1 f M l c j = M c j := by
  intro l
  induction l with
  | nil => intro M; rfl
  | cons b l ih => intro M; exact (ih _).trans (ap_ne h0 h1 j)
theorem ap_n {c0 c1 : Nat} {f : Int} {M : Mem} {b : Int} : ap c0 c1 f M b c0 f = M c0 f + 1 := mu_s _ _ _ _
theorem apL_n {c0 c1 : Nat} {f : Int} : ∀ (l : List Int) (M : Mem), apL c0 c1 f M l c0 f = M c0 f + l.length := by
  intro l
  induction l with
  | nil => intro M; exact (Int.add_zero _).symm
  | cons b l ih => intro M; rw [show apL c0 c1 f M (b :: l) = apL c0 c1 f (ap c0 c1 f M b) l from rfl, ih, ap_n, List.length_cons]; omega
theorem apL_lo {c0 c1 : Nat} {f : Int} (hc : c0 ≠ c1) : ∀ (l : List Int) (M : Mem) (j : Int), j < M c0 f → apL c0 c1 f M l c1 j = M c1 j := by
  intro l
  induction l with
  | nil => intro M j _; rfl
  | cons b l ih =>
    intro M j h
    have e : apL c0 c1 f M (b :: l) c1 j = ap c0 c1 f M b c1 j := ih _ j (by rw [ap_n]; omega)
    rw [e]
    unfold ap
    rw [mu_ne (fun q => hc q.symm), mu_j (by omega)]
theorem apL_at {c0 c1 : Nat} {f : Int} (hc : c0 ≠ c1) : ∀ (l : List Int) (M : Mem) (i : Nat), i < l.length → apL c0 c1 f M l c1 (M c0 f + i) = l.getD i 0 := by
  intro l
  induction l with
  | nil => intro M i h; exact absurd h (Nat.not_lt_zero _)
  | cons b l ih =>
    intro M i h
    show apL c0 c1 f (ap c0 c1 f M b) l c1 _ = _
    cases i with
    | zero =>
      rw [apL_lo hc l _ _ (by rw [ap_n]; omega)]
      unfold ap
      rw [mu_ne (fun q => hc q.symm), show M c0 f + ((0 : Nat) : Int) = M c0 f by omega, mu_s]
      rfl
    | succ i =>
      have q := ih (ap c0 c1 f M b) i (by rw [List.length_cons] at h; omega)
      rw [ap_n] at q
      rw [show M c0 f + ((i + 1 : Nat) : Int) = M c0 f + 1 + (i : Int) by omega, q]
      rfl
def AskH (M : Mem) (K : Kt) (T : Tt) (n : Int) : Prop := RepK M 20 K 0 ∧ RepC M 25 K 0 T ∧ 0 ≤ M 246 3 ∧ M 246 3 ≤ n
theorem AskH.ap {M : Mem} {K : Kt} {T : Tt} {n : Int} (h : AskH M K T n) (b : Int) : AskH (ap 246 247 3 M b) K T (n + 1) := by
  obtain ⟨h1, h2, h3, h4⟩ := h
  refine ⟨h1.fr (fun b j q0 q1 => ap_ne (by omega) (by omega) j), h2.fr (fun b j q0 q1 => ap_ne (by omega) (by omega) j), ?_, ?_⟩ <;> rw [ap_n] <;> omega
theorem AskH.apl {M : Mem} {K : Kt} {T : Tt} {n : Int} (l : List Int) (h : AskH M K T n) : AskH (apL 246 247 3 M l) K T (n + l.length) := by
  obtain ⟨h1, h2, h3, h4⟩ := h
  refine ⟨h1.fr (fun b j q0 q1 => apL_ne (by omega) (by omega) j l M), h2.fr (fun b j q0 q1 => apL_ne (by omega) (by omega) j l M), ?_, ?_⟩ <;> rw [apL_n] <;> omega
abbrev isaF (kd o : Int) : Prop := o = 0 ∨ o = kd ∨ ((kd = 2 ∨ kd = 3) ∧ o = 1) ∨ (kd = 5 ∧ o = 4)

/-- ElbowQueue$Asks.isA -/
theorem c_6_1 {d : Nat} {M : Mem} {Q : Option Vv → Mem → Prop} {o : Int} (ho : 0 ≤ o ∧ o ≤ 5) (k : ∀ v : Int, (v = 1 ∧ (isaF 1 o)) ∨ (v = 0 ∧ ¬ (isaF 1 o)) → Q (some (vI v)) M) : Ok d 6 0 [some (vI 1), some (vI o), none, none] [] M Q := by
  refine k_iload_n i_6_0 rfl ?_
  refine k_istore_n (ls' := [some (vI 1), some (vI o), some (vI 1), none]) i_6_1 rfl ?_
  refine k_iconst i_6_2 (by decide) ?_
  refine k_istore_n (ls' := [some (vI 1), some (vI o), some (vI 1), some (vI 0)]) i_6_3 rfl ?_
  refine k_iload_n i_6_4 rfl ?_
  refine k_bipush i_6_5 (by decide) ?_
  refine k_icmp_ge (t := 33) i_6_7 rfl (fun h7 => absurd h7 (by decide)) (fun h7 => ?_)
  refine k_iload_n i_6_10 rfl ?_
  refine k_if_lt (t := 33) i_6_11 rfl (fun h11 => absurd h11 (by decide)) (fun h11 => ?_)
  refine k_iload_n i_6_14 rfl ?_
  refine k_iload_n i_6_15 rfl ?_
  refine k_icmp_ne (t := 21) i_6_16 rfl (fun h16 => ?_) (fun h16 => ?_)
  · refine k_gets (j := 0) i_6_21 o_6 rfl (by decide) ?_
    refine k_iload_n i_6_24 rfl ?_
    refine k_ialdS (x := 0) i_6_25 (by decide) (by decide) rfl ?_
    refine k_istore_n (ls' := [some (vI 1), some (vI o), some (vI 0), some (vI 0)]) i_6_26 rfl ?_
    refine k_iinc (ls' := [some (vI 1), some (vI o), some (vI 0), some (vI 1)]) i_6_27 rfl (by omega) rfl ?_
    refine k_goto (t := 4) i_6_30 rfl ?_
    refine k_iload_n i_6_4 rfl ?_
    refine k_bipush i_6_5 (by decide) ?_
    refine k_icmp_ge (t := 33) i_6_7 rfl (fun h7 => absurd h7 (by decide)) (fun h7 => ?_)
    refine k_iload_n i_6_10 rfl ?_
    refine k_if_lt (t := 33) i_6_11 rfl (fun h11 => absurd h11 (by decide)) (fun h11 => ?_)
    refine k_iload_n i_6_14 rfl ?_
    refine k_iload_n i_6_15 rfl ?_
    refine k_icmp_ne (t := 21) i_6_16 rfl (fun h16 => ?_) (fun h16 => ?_)
    · refine k_gets (j := 0) i_6_21 o_6 rfl (by decide) ?_
      refine k_iload_n i_6_24 rfl ?_
      refine k_ialdS (x := -1) i_6_25 (by decide) (by decide) rfl ?_
      refine k_istore_n (ls' := [some (vI 1), some (vI o), some (vI (-1)), some (vI 1)]) i_6_26 rfl ?_
      refine k_iinc (ls' := [some (vI 1), some (vI o), some (vI (-1)), some (vI 2)]) i_6_27 rfl (by omega) rfl ?_
      refine k_goto (t := 4) i_6_30 rfl ?_
      refine k_iload_n i_6_4 rfl ?_
      refine k_bipush i_6_5 (by decide) ?_
      refine k_icmp_ge (t := 33) i_6_7 rfl (fun h7 => absurd h7 (by decide)) (fun h7 => ?_)
      refine k_iload_n i_6_10 rfl ?_
      refine k_if_lt (t := 33) i_6_11 rfl (fun h11 => ?_) (fun h11 => absurd h11 (by decide))
      refine k_iconst i_6_33 (by decide) ?_
      refine k_zret i_6_34 rfl (by omega) ?_
      exact k _ (by unfold isaF; omega)
    · refine k_iconst i_6_19 (by decide) ?_
      refine k_zret i_6_20 rfl (by omega) ?_
      exact k _ (by unfold isaF; omega)
  · refine k_iconst i_6_19 (by decide) ?_
    refine k_zret i_6_20 rfl (by omega) ?_
    exact k _ (by unfold isaF; omega)

/-- ElbowQueue$Asks.isA -/
theorem c_6_2 {d : Nat} {M : Mem} {Q : Option Vv → Mem → Prop} {o : Int} (ho : 0 ≤ o ∧ o ≤ 5) (k : ∀ v : Int, (v = 1 ∧ (isaF 2 o)) ∨ (v = 0 ∧ ¬ (isaF 2 o)) → Q (some (vI v)) M) : Ok d 6 0 [some (vI 2), some (vI o), none, none] [] M Q := by
  refine k_iload_n i_6_0 rfl ?_
  refine k_istore_n (ls' := [some (vI 2), some (vI o), some (vI 2), none]) i_6_1 rfl ?_
  refine k_iconst i_6_2 (by decide) ?_
  refine k_istore_n (ls' := [some (vI 2), some (vI o), some (vI 2), some (vI 0)]) i_6_3 rfl ?_
  refine k_iload_n i_6_4 rfl ?_
  refine k_bipush i_6_5 (by decide) ?_
  refine k_icmp_ge (t := 33) i_6_7 rfl (fun h7 => absurd h7 (by decide)) (fun h7 => ?_)
  refine k_iload_n i_6_10 rfl ?_
  refine k_if_lt (t := 33) i_6_11 rfl (fun h11 => absurd h11 (by decide)) (fun h11 => ?_)
  refine k_iload_n i_6_14 rfl ?_
  refine k_iload_n i_6_15 rfl ?_
  refine k_icmp_ne (t := 21) i_6_16 rfl (fun h16 => ?_) (fun h16 => ?_)
  · refine k_gets (j := 0) i_6_21 o_6 rfl (by decide) ?_
    refine k_iload_n i_6_24 rfl ?_
    refine k_ialdS (x := 1) i_6_25 (by decide) (by decide) rfl ?_
    refine k_istore_n (ls' := [some (vI 2), some (vI o), some (vI 1), some (vI 0)]) i_6_26 rfl ?_
    refine k_iinc (ls' := [some (vI 2), some (vI o), some (vI 1), some (vI 1)]) i_6_27 rfl (by omega) rfl ?_
    refine k_goto (t := 4) i_6_30 rfl ?_
    refine k_iload_n i_6_4 rfl ?_
    refine k_bipush i_6_5 (by decide) ?_
    refine k_icmp_ge (t := 33) i_6_7 rfl (fun h7 => absurd h7 (by decide)) (fun h7 => ?_)
    refine k_iload_n i_6_10 rfl ?_
    refine k_if_lt (t := 33) i_6_11 rfl (fun h11 => absurd h11 (by decide)) (fun h11 => ?_)
    refine k_iload_n i_6_14 rfl ?_
    refine k_iload_n i_6_15 rfl ?_
    refine k_icmp_ne (t := 21) i_6_16 rfl (fun h16 => ?_) (fun h16 => ?_)
    · refine k_gets (j := 0) i_6_21 o_6 rfl (by decide) ?_
      refine k_iload_n i_6_24 rfl ?_
      refine k_ialdS (x := 0) i_6_25 (by decide) (by decide) rfl ?_
      refine k_istore_n (ls' := [some (vI 2), some (vI o), some (vI 0), some (vI 1)]) i_6_26 rfl ?_
      refine k_iinc (ls' := [some (vI 2), some (vI o), some (vI 0), some (vI 2)]) i_6_27 rfl (by omega) rfl ?_
      refine k_goto (t := 4) i_6_30 rfl ?_
      refine k_iload_n i_6_4 rfl ?_
      refine k_bipush i_6_5 (by decide) ?_
      refine k_icmp_ge (t := 33) i_6_7 rfl (fun h7 => absurd h7 (by decide)) (fun h7 => ?_)
      refine k_iload_n i_6_10 rfl ?_
      refine k_if_lt (t := 33) i_6_11 rfl (fun h11 => absurd h11 (by decide)) (fun h11 => ?_)
      refine k_iload_n i_6_14 rfl ?_
      refine k_iload_n i_6_15 rfl ?_
      refine k_icmp_ne (t := 21) i_6_16 rfl (fun h16 => ?_) (fun h16 => ?_)
      · refine k_gets (j := 0) i_6_21 o_6 rfl (by decide) ?_
        refine k_iload_n i_6_24 rfl ?_
        refine k_ialdS (x := -1) i_6_25 (by decide) (by decide) rfl ?_
        refine k_istore_n (ls' := [some (vI 2), some (vI o), some (vI (-1)), some (vI 2)]) i_6_26 rfl ?_
        refine k_iinc (ls' := [some (vI 2), some (vI o), some (vI (-1)), some (vI 3)]) i_6_27 rfl (by omega) rfl ?_
        refine k_goto (t := 4) i_6_30 rfl ?_
        refine k_iload_n i_6_4 rfl ?_
        refine k_bipush i_6_5 (by decide) ?_
        refine k_icmp_ge (t := 33) i_6_7 rfl (fun h7 => absurd h7 (by decide)) (fun h7 => ?_)
        refine k_iload_n i_6_10 rfl ?_
        refine k_if_lt (t := 33) i_6_11 rfl (fun h11 => ?_) (fun h11 => absurd h11 (by decide))
        refine k_iconst i_6_33 (by decide) ?_
        refine k_zret i_6_34 rfl (by omega) ?_
        exact k _ (by unfold isaF; omega)
      · refine k_iconst i_6_19 (by decide) ?_
        refine k_zret i_6_20 rfl (by omega) ?_
        exact k _ (by unfold isaF; omega)
    · refine k_iconst i_6_19 (by decide) ?_
      refine k_zret i_6_20 rfl (by omega) ?_
      exact k _ (by unfold isaF; omega)
  · refine k_iconst i_6_19 (by decide) ?_
    refine k_zret i_6_20 rfl (by omega) ?_
    exact k _ (by unfold isaF; omega)

/-- ElbowQueue$Asks.isA -/
theorem c_6_3 {d : Nat} {M : Mem} {Q : Option Vv → Mem → Prop} {o : Int} (ho : 0 ≤ o ∧ o ≤ 5) (k : ∀ v : Int, (v = 1 ∧ (isaF 3 o)) ∨ (v = 0 ∧ ¬ (isaF 3 o)) → Q (some (vI v)) M) : Ok d 6 0 [some (vI 3), some (vI o), none, none] [] M Q := by
  refine k_iload_n i_6_0 rfl ?_
  refine k_istore_n (ls' := [some (vI 3), some (vI o), some (vI 3), none]) i_6_1 rfl ?_
  refine k_iconst i_6_2 (by decide) ?_
  refine k_istore_n (ls' := [some (vI 3), some (vI o), some (vI 3), some (vI 0)]) i_6_3 rfl ?_
  refine k_iload_n i_6_4 rfl ?_
  refine k_bipush i_6_5 (by decide) ?_
  refine k_icmp_ge (t := 33) i_6_7 rfl (fun h7 => absurd h7 (by decide)) (fun h7 => ?_)
  refine k_iload_n i_6_10 rfl ?_
  refine k_if_lt (t := 33) i_6_11 rfl (fun h11 => absurd h11 (by decide)) (fun h11 => ?_)
  refine k_iload_n i_6_14 rfl ?_
  refine k_iload_n i_6_15 rfl ?_
  refine k_icmp_ne (t := 21) i_6_16 rfl (fun h16 => ?_) (fun h16 => ?_)
  · refine k_gets (j := 0) i_6_21 o_6 rfl (by decide) ?_
    refine k_iload_n i_6_24 rfl ?_
    refine k_ialdS (x := 1) i_6_25 (by decide) (by decide) rfl ?_
    refine k_istore_n (ls' := [some (vI 3), some (vI o), some (vI 1), some (vI 0)]) i_6_26 rfl ?_
    refine k_iinc (ls' := [some (vI 3), some (vI o), some (vI 1), some (vI 1)]) i_6_27 rfl (by omega) rfl ?_
    refine k_goto (t := 4) i_6_30 rfl ?_
    refine k_iload_n i_6_4 rfl ?_
    refine k_bipush i_6_5 (by decide) ?_
    refine k_icmp_ge (t := 33) i_6_7 rfl (fun h7 => absurd h7 (by decide)) (fun h7 => ?_)
    refine k_iload_n i_6_10 rfl ?_
    refine k_if_lt (t := 33) i_6_11 rfl (fun h11 => absurd h11 (by decide)) (fun h11 => ?_)
    refine k_iload_n i_6_14 rfl ?_
    refine k_iload_n i_6_15 rfl ?_
    refine k_icmp_ne (t := 21) i_6_16 rfl (fun h16 => ?_) (fun h16 => ?_)
    · refine k_gets (j := 0) i_6_21 o_6 rfl (by decide) ?_
      refine k_iload_n i_6_24 rfl ?_
      refine k_ialdS (x := 0) i_6_25 (by decide) (by decide) rfl ?_
      refine k_istore_n (ls' := [some (vI 3), some (vI o), some (vI 0), some (vI 1)]) i_6_26 rfl ?_
      refine k_iinc (ls' := [some (vI 3), some (vI o), some (vI 0), some (vI 2)]) i_6_27 rfl (by omega) rfl ?_
      refine k_goto (t := 4) i_6_30 rfl ?_
      refine k_iload_n i_6_4 rfl ?_
      refine k_bipush i_6_5 (by decide) ?_
      refine k_icmp_ge (t := 33) i_6_7 rfl (fun h7 => absurd h7 (by decide)) (fun h7 => ?_)
      refine k_iload_n i_6_10 rfl ?_
      refine k_if_lt (t := 33) i_6_11 rfl (fun h11 => absurd h11 (by decide)) (fun h11 => ?_)
      refine k_iload_n i_6_14 rfl ?_
      refine k_iload_n i_6_15 rfl ?_
      refine k_icmp_ne (t := 21) i_6_16 rfl (fun h16 => ?_) (fun h16 => ?_)
      · refine k_gets (j := 0) i_6_21 o_6 rfl (by decide) ?_
        refine k_iload_n i_6_24 rfl ?_
        refine k_ialdS (x := -1) i_6_25 (by decide) (by decide) rfl ?_
        refine k_istore_n (ls' := [some (vI 3), some (vI o), some (vI (-1)), some (vI 2)]) i_6_26 rfl ?_
        refine k_iinc (ls' := [some (vI 3), some (vI o), some (vI (-1)), some (vI 3)]) i_6_27 rfl (by omega) rfl ?_
        refine k_goto (t := 4) i_6_30 rfl ?_
        refine k_iload_n i_6_4 rfl ?_
        refine k_bipush i_6_5 (by decide) ?_
        refine k_icmp_ge (t := 33) i_6_7 rfl (fun h7 => absurd h7 (by decide)) (fun h7 => ?_)
        refine k_iload_n i_6_10 rfl ?_
        refine k_if_lt (t := 33) i_6_11 rfl (fun h11 => ?_) (fun h11 => absurd h11 (by decide))
        refine k_iconst i_6_33 (by decide) ?_
        refine k_zret i_6_34 rfl (by omega) ?_
        exact k _ (by unfold isaF; omega)
      · refine k_iconst i_6_19 (by decide) ?_
        refine k_zret i_6_20 rfl (by omega) ?_
        exact k _ (by unfold isaF; omega)
    · refine k_iconst i_6_19 (by decide) ?_
      refine k_zret i_6_20 rfl (by omega) ?_
      exact k _ (by unfold isaF; omega)
  · refine k_iconst i_6_19 (by decide) ?_
    refine k_zret i_6_20 rfl (by omega) ?_
    exact k _ (by unfold isaF; omega)

/-- ElbowQueue$Asks.isA -/
theorem c_6_4 {d : Nat} {M : Mem} {Q : Option Vv → Mem → Prop} {o : Int} (ho : 0 ≤ o ∧ o ≤ 5) (k : ∀ v : Int, (v = 1 ∧ (isaF 4 o)) ∨ (v = 0 ∧ ¬ (isaF 4 o)) → Q (some (vI v)) M) : Ok d 6 0 [some (vI 4), some (vI o), none, none] [] M Q := by
  refine k_iload_n i_6_0 rfl ?_
  refine k_istore_n (ls' := [some (vI 4), some (vI o), some (vI 4), none]) i_6_1 rfl ?_
  refine k_iconst i_6_2 (by decide) ?_
  refine k_istore_n (ls' := [some (vI 4), some (vI o), some (vI 4), some (vI 0)]) i_6_3 rfl ?_
  refine k_iload_n i_6_4 rfl ?_
  refine k_bipush i_6_5 (by decide) ?_
  refine k_icmp_ge (t := 33) i_6_7 rfl (fun h7 => absurd h7 (by decide)) (fun h7 => ?_)
  refine k_iload_n i_6_10 rfl ?_
  refine k_if_lt (t := 33) i_6_11 rfl (fun h11 => absurd h11 (by decide)) (fun h11 => ?_)
  refine k_iload_n i_6_14 rfl ?_
  refine k_iload_n i_6_15 rfl ?_
  refine k_icmp_ne (t := 21) i_6_16 rfl (fun h16 => ?_) (fun h16 => ?_)
  · refine k_gets (j := 0) i_6_21 o_6 rfl (by decide) ?_
    refine k_iload_n i_6_24 rfl ?_
    refine k_ialdS (x := 0) i_6_25 (by decide) (by decide) rfl ?_
    refine k_istore_n (ls' := [some (vI 4), some (vI o), some (vI 0), some (vI 0)]) i_6_26 rfl ?_
    refine k_iinc (ls' := [some (vI 4), some (vI o), some (vI 0), some (vI 1)]) i_6_27 rfl (by omega) rfl ?_
    refine k_goto (t := 4) i_6_30 rfl ?_
    refine k_iload_n i_6_4 rfl ?_
    refine k_bipush i_6_5 (by decide) ?_
    refine k_icmp_ge (t := 33) i_6_7 rfl (fun h7 => absurd h7 (by decide)) (fun h7 => ?_)
    refine k_iload_n i_6_10 rfl ?_
    refine k_if_lt (t := 33) i_6_11 rfl (fun h11 => absurd h11 (by decide)) (fun h11 => ?_)
    refine k_iload_n i_6_14 rfl ?_
    refine k_iload_n i_6_15 rfl ?_
    refine k_icmp_ne (t := 21) i_6_16 rfl (fun h16 => ?_) (fun h16 => ?_)
    · refine k_gets (j := 0) i_6_21 o_6 rfl (by decide) ?_
      refine k_iload_n i_6_24 rfl ?_
      refine k_ialdS (x := -1) i_6_25 (by decide) (by decide) rfl ?_
      refine k_istore_n (ls' := [some (vI 4), some (vI o), some (vI (-1)), some (vI 1)]) i_6_26 rfl ?_
      refine k_iinc (ls' := [some (vI 4), some (vI o), some (vI (-1)), some (vI 2)]) i_6_27 rfl (by omega) rfl ?_
      refine k_goto (t := 4) i_6_30 rfl ?_
      refine k_iload_n i_6_4 rfl ?_
      refine k_bipush i_6_5 (by decide) ?_
      refine k_icmp_ge (t := 33) i_6_7 rfl (fun h7 => absurd h7 (by decide)) (fun h7 => ?_)
      refine k_iload_n i_6_10 rfl ?_
      refine k_if_lt (t := 33) i_6_11 rfl (fun h11 => ?_) (fun h11 => absurd h11 (by decide))
      refine k_iconst i_6_33 (by decide) ?_
      refine k_zret i_6_34 rfl (by omega) ?_
      exact k _ (by unfold isaF; omega)
    · refine k_iconst i_6_19 (by decide) ?_
      refine k_zret i_6_20 rfl (by omega) ?_
      exact k _ (by unfold isaF; omega)
  · refine k_iconst i_6_19 (by decide) ?_
    refine k_zret i_6_20 rfl (by omega) ?_
    exact k _ (by unfold isaF; omega)

/-- ElbowQueue$Asks.isA -/
theorem c_6_5 {d : Nat} {M : Mem} {Q : Option Vv → Mem → Prop} {o : Int} (ho : 0 ≤ o ∧ o ≤ 5) (k : ∀ v : Int, (v = 1 ∧ (isaF 5 o)) ∨ (v = 0 ∧ ¬ (isaF 5 o)) → Q (some (vI v)) M) : Ok d 6 0 [some (vI 5), some (vI o), none, none] [] M Q := by
  refine k_iload_n i_6_0 rfl ?_
  refine k_istore_n (ls' := [some (vI 5), some (vI o), some (vI 5), none]) i_6_1 rfl ?_
  refine k_iconst i_6_2 (by decide) ?_
  refine k_istore_n (ls' := [some (vI 5), some (vI o), some (vI 5), some (vI 0)]) i_6_3 rfl ?_
  refine k_iload_n i_6_4 rfl ?_
  refine k_bipush i_6_5 (by decide) ?_
  refine k_icmp_ge (t := 33) i_6_7 rfl (fun h7 => absurd h7 (by decide)) (fun h7 => ?_)
  refine k_iload_n i_6_10 rfl ?_
  refine k_if_lt (t := 33) i_6_11 rfl (fun h11 => absurd h11 (by decide)) (fun h11 => ?_)
  refine k_iload_n i_6_14 rfl ?_
  refine k_iload_n i_6_15 rfl ?_
  refine k_icmp_ne (t := 21) i_6_16 rfl (fun h16 => ?_) (fun h16 => ?_)
  · refine k_gets (j := 0) i_6_21 o_6 rfl (by decide) ?_
    refine k_iload_n i_6_24 rfl ?_
    refine k_ialdS (x := 4) i_6_25 (by decide) (by decide) rfl ?_
    refine k_istore_n (ls' := [some (vI 5), some (vI o), some (vI 4), some (vI 0)]) i_6_26 rfl ?_
    refine k_iinc (ls' := [some (vI 5), some (vI o), some (vI 4), some (vI 1)]) i_6_27 rfl (by omega) rfl ?_
    refine k_goto (t := 4) i_6_30 rfl ?_
    refine k_iload_n i_6_4 rfl ?_
    refine k_bipush i_6_5 (by decide) ?_
    refine k_icmp_ge (t := 33) i_6_7 rfl (fun h7 => absurd h7 (by decide)) (fun h7 => ?_)
    refine k_iload_n i_6_10 rfl ?_
    refine k_if_lt (t := 33) i_6_11 rfl (fun h11 => absurd h11 (by decide)) (fun h11 => ?_)
    refine k_iload_n i_6_14 rfl ?_
    refine k_iload_n i_6_15 rfl ?_
    refine k_icmp_ne (t := 21) i_6_16 rfl (fun h16 => ?_) (fun h16 => ?_)
    · refine k_gets (j := 0) i_6_21 o_6 rfl (by decide) ?_
      refine k_iload_n i_6_24 rfl ?_
      refine k_ialdS (x := 0) i_6_25 (by decide) (by decide) rfl ?_
      refine k_istore_n (ls' := [some (vI 5), some (vI o), some (vI 0), some (vI 1)]) i_6_26 rfl ?_
      refine k_iinc (ls' := [some (vI 5), some (vI o), some (vI 0), some (vI 2)]) i_6_27 rfl (by omega) rfl ?_
      refine k_goto (t := 4) i_6_30 rfl ?_
      refine k_iload_n i_6_4 rfl ?_
      refine k_bipush i_6_5 (by decide) ?_
      refine k_icmp_ge (t := 33) i_6_7 rfl (fun h7 => absurd h7 (by decide)) (fun h7 => ?_)
      refine k_iload_n i_6_10 rfl ?_
      refine k_if_lt (t := 33) i_6_11 rfl (fun h11 => absurd h11 (by decide)) (fun h11 => ?_)
      refine k_iload_n i_6_14 rfl ?_
      refine k_iload_n i_6_15 rfl ?_
      refine k_icmp_ne (t := 21) i_6_16 rfl (fun h16 => ?_) (fun h16 => ?_)
      · refine k_gets (j := 0) i_6_21 o_6 rfl (by decide) ?_
        refine k_iload_n i_6_24 rfl ?_
        refine k_ialdS (x := -1) i_6_25 (by decide) (by decide) rfl ?_
        refine k_istore_n (ls' := [some (vI 5), some (vI o), some (vI (-1)), some (vI 2)]) i_6_26 rfl ?_
        refine k_iinc (ls' := [some (vI 5), some (vI o), some (vI (-1)), some (vI 3)]) i_6_27 rfl (by omega) rfl ?_
        refine k_goto (t := 4) i_6_30 rfl ?_
        refine k_iload_n i_6_4 rfl ?_
        refine k_bipush i_6_5 (by decide) ?_
        refine k_icmp_ge (t := 33) i_6_7 rfl (fun h7 => absurd h7 (by decide)) (fun h7 => ?_)
        refine k_iload_n i_6_10 rfl ?_
        refine k_if_lt (t := 33) i_6_11 rfl (fun h11 => ?_) (fun h11 => absurd h11 (by decide))
        refine k_iconst i_6_33 (by decide) ?_
        refine k_zret i_6_34 rfl (by omega) ?_
        exact k _ (by unfold isaF; omega)
      · refine k_iconst i_6_19 (by decide) ?_
        refine k_zret i_6_20 rfl (by omega) ?_
        exact k _ (by unfold isaF; omega)
    · refine k_iconst i_6_19 (by decide) ?_
      refine k_zret i_6_20 rfl (by omega) ?_
      exact k _ (by unfold isaF; omega)
  · refine k_iconst i_6_19 (by decide) ?_
    refine k_zret i_6_20 rfl (by omega) ?_
    exact k _ (by unfold isaF; omega)

theorem c_6 {d : Nat} {M : Mem} {Q : Option Vv → Mem → Prop} {kd o : Int} (hkd : 1 ≤ kd ∧ kd ≤ 5) (ho : 0 ≤ o ∧ o ≤ 5) (k : ∀ v : Int, (v = 1 ∧ (isaF kd o)) ∨ (v = 0 ∧ ¬ (isaF kd o)) → Q (some (vI v)) M) : Ok d 6 0 [some (vI kd), some (vI o), none, none] [] M Q := by
  rcases (show kd = 1 ∨ kd = 2 ∨ kd = 3 ∨ kd = 4 ∨ kd = 5 by omega) with rfl | rfl | rfl | rfl | rfl
  · exact c_6_1 ho k
  · exact c_6_2 ho k
  · exact c_6_3 ho k
  · exact c_6_4 ho k
  · exact c_6_5 ho k

/-- ElbowQueue$Asks.traced -/
theorem c_7 {d : Nat} {M : Mem} {Q : Option Vv → Mem → Prop} {i : Int} (hl : 0 ≤ M 246 3 ∧ M 246 3 ≤ 16) (k : Q (some (vI (if 0 ≤ i ∧ i < M 246 3 then M 247 i else -1000000))) M) : Ok d 7 0 [some (vR (some 246)), some (vI i)] [] M Q := by
  refine k_iload_n i_7_0 rfl ?_
  refine k_if_lt (t := 21) i_7_1 rfl (fun h1 => ?_) (fun h1 => ?_)
  · refine k_ldc (z := -1000000) i_7_21 o_7 rfl (by decide) ?_
    refine k_iret i_7_23 rfl ?_
    rw [if_neg (by omega)] at k
    exact k
  · refine k_iload_n i_7_4 rfl ?_
    refine k_aload_n i_7_5 rfl ?_
    refine k_getI (kz := 3) i_7_6 o_7 rfl (by decide) (s_246) rfl ?_
    refine k_icmp_ge (t := 21) i_7_9 rfl (fun h9 => ?_) (fun h9 => ?_)
    · refine k_ldc (z := -1000000) i_7_21 o_7 rfl (by decide) ?_
      refine k_iret i_7_23 rfl ?_
      rw [if_neg (by omega)] at k
      exact k
    · refine k_aload_n i_7_12 rfl ?_
      refine k_getR (r := 247) i_7_13 o_7 rfl (by decide) (s_246) rfl ?_
      refine k_iload_n i_7_16 rfl ?_
      refine k_iald i_7_17 (s_247) (by omega) ?_
      refine k_goto (t := 23) i_7_18 rfl ?_
      refine k_iret i_7_23 rfl ?_
      rw [if_pos (by omega)] at k
      exact k

/-- ElbowQueue$Asks.leave -/
theorem c_12 {d : Nat} {M : Mem} {Q : Option Vv → Mem → Prop} {b : Int} (hl : 0 ≤ M 246 3 ∧ M 246 3 < 16) (k : Q none (ap 246 247 3 M b)) : Ok d 12 0 [some (vR (some 246)), some (vI b)] [] M Q := by
  refine k_aload_n i_12_0 rfl ?_
  refine k_getI (kz := 3) i_12_1 o_12 rfl (by decide) (s_246) rfl ?_
  refine k_bipush i_12_4 (by decide) ?_
  refine k_icmp_ge (t := 29) i_12_6 rfl (fun h6 => absurd h6 (by omega)) (fun h6 => ?_)
  refine k_aload_n i_12_9 rfl ?_
  refine k_getR (r := 247) i_12_10 o_12 rfl (by decide) (s_246) rfl ?_
  refine k_aload_n i_12_13 rfl ?_
  refine k_getI (kz := 3) i_12_14 o_12 rfl (by decide) (s_246) rfl ?_
  refine k_iload_n i_12_17 rfl ?_
  refine k_iast i_12_18 (s_247) (by omega) ?_
  refine k_aload_n i_12_19 rfl ?_
  refine k_dupR i_12_20 ?_
  refine k_getI (kz := 3) i_12_21 o_12 rfl (by decide) (s_246) rfl ?_
  rw [mu_ne (M := M) (a := 247) (b := 246) (i := M 246 3) (x := b) (by omega)]
  refine k_iconst i_12_24 (by decide) ?_
  refine k_iadd i_12_25 (by omega) ?_
  refine k_putI (kz := 3) i_12_26 o_12 rfl (by decide) (s_246) rfl ?_
  refine k_vret i_12_29 rfl ?_
  exact k

/-- ElbowQueue$Asks.bodyOf -/
theorem c_10_0_0 {d : Nat} {M : Mem} {Q : Option Vv → Mem → Prop}   (k : Q (some (vI (10))) M) : Ok d 10 0 [some (vI 0), some (vI 0), none] [] M Q := by
  refine k_iload_n i_10_0 rfl ?_
  refine k_iconst i_10_1 (by decide) ?_
  refine k_max i_10_2 o_10 rfl rfl ?_
  rw [show (if (0 : Int) < (0 : Int) then (0 : Int) else (0 : Int)) = 0 by decide]
  refine k_istore_n (ls' := [some (vI 0), some (vI 0), some (vI 0)]) i_10_5 rfl ?_
  refine k_iload_n i_10_6 rfl ?_
  refine k_if_ne (t := 18) i_10_7 rfl (fun h7 => absurd h7 (by decide)) (fun h7 => ?_)
  refine k_gets (j := 1) i_10_10 o_10 rfl (by decide) ?_
  refine k_iload_n i_10_13 rfl ?_
  refine k_ialdS (x := 10) i_10_14 (by decide) (by decide) rfl ?_
  refine k_goto (t := 23) i_10_15 rfl ?_
  refine k_iret i_10_23 rfl ?_
  exact k

/-- ElbowQueue$Asks.bodyOf -/
theorem c_10_0_1 {d : Nat} {M : Mem} {Q : Option Vv → Mem → Prop}   (k : Q (some (vI (20))) M) : Ok d 10 0 [some (vI 0), some (vI 1), none] [] M Q := by
  refine k_iload_n i_10_0 rfl ?_
  refine k_iconst i_10_1 (by decide) ?_
  refine k_max i_10_2 o_10 rfl rfl ?_
  rw [show (if (0 : Int) < (0 : Int) then (0 : Int) else (0 : Int)) = 0 by decide]
  refine k_istore_n (ls' := [some (vI 0), some (vI 1), some (vI 0)]) i_10_5 rfl ?_
  refine k_iload_n i_10_6 rfl ?_
  refine k_if_ne (t := 18) i_10_7 rfl (fun h7 => ?_) (fun h7 => absurd h7 (by decide))
  refine k_gets (j := 2) i_10_18 o_10 rfl (by decide) ?_
  refine k_iload_n i_10_21 rfl ?_
  refine k_ialdS (x := 20) i_10_22 (by decide) (by decide) rfl ?_
  refine k_iret i_10_23 rfl ?_
  exact k

/-- ElbowQueue$Asks.bodyOf -/
theorem c_10_1_0 {d : Nat} {M : Mem} {Q : Option Vv → Mem → Prop}   (k : Q (some (vI (11))) M) : Ok d 10 0 [some (vI 1), some (vI 0), none] [] M Q := by
  refine k_iload_n i_10_0 rfl ?_
  refine k_iconst i_10_1 (by decide) ?_
  refine k_max i_10_2 o_10 rfl rfl ?_
  rw [show (if (1 : Int) < (0 : Int) then (0 : Int) else (1 : Int)) = 1 by decide]
  refine k_istore_n (ls' := [some (vI 1), some (vI 0), some (vI 1)]) i_10_5 rfl ?_
  refine k_iload_n i_10_6 rfl ?_
  refine k_if_ne (t := 18) i_10_7 rfl (fun h7 => absurd h7 (by decide)) (fun h7 => ?_)
  refine k_gets (j := 1) i_10_10 o_10 rfl (by decide) ?_
  refine k_iload_n i_10_13 rfl ?_
  refine k_ialdS (x := 11) i_10_14 (by decide) (by decide) rfl ?_
  refine k_goto (t := 23) i_10_15 rfl ?_
  refine k_iret i_10_23 rfl ?_
  exact k

/-- ElbowQueue$Asks.bodyOf -/
theorem c_10_1_1 {d : Nat} {M : Mem} {Q : Option Vv → Mem → Prop}   (k : Q (some (vI (21))) M) : Ok d 10 0 [some (vI 1), some (vI 1), none] [] M Q := by
  refine k_iload_n i_10_0 rfl ?_
  refine k_iconst i_10_1 (by decide) ?_
  refine k_max i_10_2 o_10 rfl rfl ?_
  rw [show (if (1 : Int) < (0 : Int) then (0 : Int) else (1 : Int)) = 1 by decide]
  refine k_istore_n (ls' := [some (vI 1), some (vI 1), some (vI 1)]) i_10_5 rfl ?_
  refine k_iload_n i_10_6 rfl ?_
  refine k_if_ne (t := 18) i_10_7 rfl (fun h7 => ?_) (fun h7 => absurd h7 (by decide))
  refine k_gets (j := 2) i_10_18 o_10 rfl (by decide) ?_
  refine k_iload_n i_10_21 rfl ?_
  refine k_ialdS (x := 21) i_10_22 (by decide) (by decide) rfl ?_
  refine k_iret i_10_23 rfl ?_
  exact k

/-- ElbowQueue$Asks.bodyOf -/
theorem c_10_2_0 {d : Nat} {M : Mem} {Q : Option Vv → Mem → Prop}   (k : Q (some (vI (12))) M) : Ok d 10 0 [some (vI 2), some (vI 0), none] [] M Q := by
  refine k_iload_n i_10_0 rfl ?_
  refine k_iconst i_10_1 (by decide) ?_
  refine k_max i_10_2 o_10 rfl rfl ?_
  rw [show (if (2 : Int) < (0 : Int) then (0 : Int) else (2 : Int)) = 2 by decide]
  refine k_istore_n (ls' := [some (vI 2), some (vI 0), some (vI 2)]) i_10_5 rfl ?_
  refine k_iload_n i_10_6 rfl ?_
  refine k_if_ne (t := 18) i_10_7 rfl (fun h7 => absurd h7 (by decide)) (fun h7 => ?_)
  refine k_gets (j := 1) i_10_10 o_10 rfl (by decide) ?_
  refine k_iload_n i_10_13 rfl ?_
  refine k_ialdS (x := 12) i_10_14 (by decide) (by decide) rfl ?_
  refine k_goto (t := 23) i_10_15 rfl ?_
  refine k_iret i_10_23 rfl ?_
  exact k

/-- ElbowQueue$Asks.bodyOf -/
theorem c_10_2_1 {d : Nat} {M : Mem} {Q : Option Vv → Mem → Prop}   (k : Q (some (vI (24))) M) : Ok d 10 0 [some (vI 2), some (vI 1), none] [] M Q := by
  refine k_iload_n i_10_0 rfl ?_
  refine k_iconst i_10_1 (by decide) ?_
  refine k_max i_10_2 o_10 rfl rfl ?_
  rw [show (if (2 : Int) < (0 : Int) then (0 : Int) else (2 : Int)) = 2 by decide]
  refine k_istore_n (ls' := [some (vI 2), some (vI 1), some (vI 2)]) i_10_5 rfl ?_
  refine k_iload_n i_10_6 rfl ?_
  refine k_if_ne (t := 18) i_10_7 rfl (fun h7 => ?_) (fun h7 => absurd h7 (by decide))
  refine k_gets (j := 2) i_10_18 o_10 rfl (by decide) ?_
  refine k_iload_n i_10_21 rfl ?_
  refine k_ialdS (x := 24) i_10_22 (by decide) (by decide) rfl ?_
  refine k_iret i_10_23 rfl ?_
  exact k

/-- ElbowQueue$Asks.bodyOf -/
theorem c_10_3_0 {d : Nat} {M : Mem} {Q : Option Vv → Mem → Prop}   (k : Q (some (vI (0))) M) : Ok d 10 0 [some (vI 3), some (vI 0), none] [] M Q := by
  refine k_iload_n i_10_0 rfl ?_
  refine k_iconst i_10_1 (by decide) ?_
  refine k_max i_10_2 o_10 rfl rfl ?_
  rw [show (if (3 : Int) < (0 : Int) then (0 : Int) else (3 : Int)) = 3 by decide]
  refine k_istore_n (ls' := [some (vI 3), some (vI 0), some (vI 3)]) i_10_5 rfl ?_
  refine k_iload_n i_10_6 rfl ?_
  refine k_if_ne (t := 18) i_10_7 rfl (fun h7 => absurd h7 (by decide)) (fun h7 => ?_)
  refine k_gets (j := 1) i_10_10 o_10 rfl (by decide) ?_
  refine k_iload_n i_10_13 rfl ?_
  refine k_ialdS (x := 0) i_10_14 (by decide) (by decide) rfl ?_
  refine k_goto (t := 23) i_10_15 rfl ?_
  refine k_iret i_10_23 rfl ?_
  exact k

/-- ElbowQueue$Asks.bodyOf -/
theorem c_10_3_1 {d : Nat} {M : Mem} {Q : Option Vv → Mem → Prop}   (k : Q (some (vI (22))) M) : Ok d 10 0 [some (vI 3), some (vI 1), none] [] M Q := by
  refine k_iload_n i_10_0 rfl ?_
  refine k_iconst i_10_1 (by decide) ?_
  refine k_max i_10_2 o_10 rfl rfl ?_
  rw [show (if (3 : Int) < (0 : Int) then (0 : Int) else (3 : Int)) = 3 by decide]
  refine k_istore_n (ls' := [some (vI 3), some (vI 1), some (vI 3)]) i_10_5 rfl ?_
  refine k_iload_n i_10_6 rfl ?_
  refine k_if_ne (t := 18) i_10_7 rfl (fun h7 => ?_) (fun h7 => absurd h7 (by decide))
  refine k_gets (j := 2) i_10_18 o_10 rfl (by decide) ?_
  refine k_iload_n i_10_21 rfl ?_
  refine k_ialdS (x := 22) i_10_22 (by decide) (by decide) rfl ?_
  refine k_iret i_10_23 rfl ?_
  exact k

/-- ElbowQueue$Asks.bodyOf -/
theorem c_10_4_0 {d : Nat} {M : Mem} {Q : Option Vv → Mem → Prop}   (k : Q (some (vI (13))) M) : Ok d 10 0 [some (vI 4), some (vI 0), none] [] M Q := by
  refine k_iload_n i_10_0 rfl ?_
  refine k_iconst i_10_1 (by decide) ?_
  refine k_max i_10_2 o_10 rfl rfl ?_
  rw [show (if (4 : Int) < (0 : Int) then (0 : Int) else (4 : Int)) = 4 by decide]
  refine k_istore_n (ls' := [some (vI 4), some (vI 0), some (vI 4)]) i_10_5 rfl ?_
  refine k_iload_n i_10_6 rfl ?_
  refine k_if_ne (t := 18) i_10_7 rfl (fun h7 => absurd h7 (by decide)) (fun h7 => ?_)
  refine k_gets (j := 1) i_10_10 o_10 rfl (by decide) ?_
  refine k_iload_n i_10_13 rfl ?_
  refine k_ialdS (x := 13) i_10_14 (by decide) (by decide) rfl ?_
  refine k_goto (t := 23) i_10_15 rfl ?_
  refine k_iret i_10_23 rfl ?_
  exact k

/-- ElbowQueue$Asks.bodyOf -/
theorem c_10_4_1 {d : Nat} {M : Mem} {Q : Option Vv → Mem → Prop}   (k : Q (some (vI (23))) M) : Ok d 10 0 [some (vI 4), some (vI 1), none] [] M Q := by
  refine k_iload_n i_10_0 rfl ?_
  refine k_iconst i_10_1 (by decide) ?_
  refine k_max i_10_2 o_10 rfl rfl ?_
  rw [show (if (4 : Int) < (0 : Int) then (0 : Int) else (4 : Int)) = 4 by decide]
  refine k_istore_n (ls' := [some (vI 4), some (vI 1), some (vI 4)]) i_10_5 rfl ?_
  refine k_iload_n i_10_6 rfl ?_
  refine k_if_ne (t := 18) i_10_7 rfl (fun h7 => ?_) (fun h7 => absurd h7 (by decide))
  refine k_gets (j := 2) i_10_18 o_10 rfl (by decide) ?_
  refine k_iload_n i_10_21 rfl ?_
  refine k_ialdS (x := 23) i_10_22 (by decide) (by decide) rfl ?_
  refine k_iret i_10_23 rfl ?_
  exact k

/-- ElbowQueue$Asks.bodyOf -/
theorem c_10_5_0 {d : Nat} {M : Mem} {Q : Option Vv → Mem → Prop}   (k : Q (some (vI (14))) M) : Ok d 10 0 [some (vI 5), some (vI 0), none] [] M Q := by
  refine k_iload_n i_10_0 rfl ?_
  refine k_iconst i_10_1 (by decide) ?_
  refine k_max i_10_2 o_10 rfl rfl ?_
  rw [show (if (5 : Int) < (0 : Int) then (0 : Int) else (5 : Int)) = 5 by decide]
  refine k_istore_n (ls' := [some (vI 5), some (vI 0), some (vI 5)]) i_10_5 rfl ?_
  refine k_iload_n i_10_6 rfl ?_
  refine k_if_ne (t := 18) i_10_7 rfl (fun h7 => absurd h7 (by decide)) (fun h7 => ?_)
  refine k_gets (j := 1) i_10_10 o_10 rfl (by decide) ?_
  refine k_iload_n i_10_13 rfl ?_
  refine k_ialdS (x := 14) i_10_14 (by decide) (by decide) rfl ?_
  refine k_goto (t := 23) i_10_15 rfl ?_
  refine k_iret i_10_23 rfl ?_
  exact k

/-- ElbowQueue$Asks.bodyOf -/
theorem c_10_5_1 {d : Nat} {M : Mem} {Q : Option Vv → Mem → Prop}   (k : Q (some (vI (0))) M) : Ok d 10 0 [some (vI 5), some (vI 1), none] [] M Q := by
  refine k_iload_n i_10_0 rfl ?_
  refine k_iconst i_10_1 (by decide) ?_
  refine k_max i_10_2 o_10 rfl rfl ?_
  rw [show (if (5 : Int) < (0 : Int) then (0 : Int) else (5 : Int)) = 5 by decide]
  refine k_istore_n (ls' := [some (vI 5), some (vI 1), some (vI 5)]) i_10_5 rfl ?_
  refine k_iload_n i_10_6 rfl ?_
  refine k_if_ne (t := 18) i_10_7 rfl (fun h7 => ?_) (fun h7 => absurd h7 (by decide))
  refine k_gets (j := 2) i_10_18 o_10 rfl (by decide) ?_
  refine k_iload_n i_10_21 rfl ?_
  refine k_ialdS (x := 0) i_10_22 (by decide) (by decide) rfl ?_
  refine k_iret i_10_23 rfl ?_
  exact k

/-- ElbowQueue$Asks.given -/
theorem g_10 {d : Nat} {M : Mem} {Q : Option Vv → Mem → Prop} {K : Kt} {T : Tt} {x dp n : Int} (hKo : KOk K 0) (hT : TOk K 0 T) (hq : AskH M K T n) (hv : Va K 0 x) (hd : 0 ≤ dp ∧ dp ≤ 18) (hn : n + 1 ≤ 16) (k : Q (some (vI (tS T x))) (apL 246 247 3 M [10])) : Ok (d + 1) 11 0 [some (vR (some 246)), some (vI 10), some (vI x), some (vI dp)] [] M Q := by
  refine k_iload_n i_11_0 rfl ?_
  refine k_bipush i_11_1 (by decide) ?_
  refine k_icmp_le (t := 8) i_11_3 rfl (fun h3 => ?_) (fun h3 => absurd (by omega) h3)
  refine k_aload_n i_11_8 rfl ?_
  refine k_iload_n i_11_9 rfl ?_
  refine k_invV (n := 1) (o' := 1) (av := [vR (some 246), vI 10]) (rest := []) (el := [some (vR (some 246)), some (vI 10)]) i_11_10 o_11 rfl v_12 rfl (s_246) rfl rfl rfl rfl rfl ?_
  refine c_12 (by have := hq.2.2; omega) ?_
  show Ok _ 11 13 [some (vR (some 246)), some (vI 10), some (vI x), some (vI dp)] [] (ap 246 247 3 M 10) _
  have hq0 := hq.ap 10
  have sb := hT.2.2.2.1 x hv
  have bb : 0 ≤ bel K T x ∧ bel K T x ≤ 3 := by unfold bel; have := hT.2.2.1; split <;> omega
  have hv2 : (0 ≤ x ∧ x < kPe K) ∨ (16 ≤ x ∧ x < 16 + 0) := hv
  have g0 := hKo.1
  have hvb := va_b hKo hv
  have mi9 := hT.2.2.1
  have es : M 29 x = tS T x := (hq.2.1.2.2.2.2.2.2 x hv).2.2.1
  refine k_iload_n i_11_13 rfl ?_
  refine k_tab (off := 74) (t := 88) i_11_14 rfl rfl ?_
  refine k_aload_n i_11_88 rfl ?_
  refine k_getR (r := 25) i_11_89 o_11 rfl (by decide) (s_246) rfl ?_
  refine k_getR (r := 29) i_11_92 o_11 rfl (by decide) (s_25) rfl ?_
  refine k_iload_n i_11_95 rfl ?_
  refine k_iald i_11_96 (s_29) (by omega) ?_
  rw [ap_ne (by decide) (by decide), es]
  refine k_iret i_11_97 rfl ?_
  exact k

/-- ElbowQueue$Asks.given -/
theorem g_20 {d : Nat} {M : Mem} {Q : Option Vv → Mem → Prop} {K : Kt} {T : Tt} {x dp n : Int} (hKo : KOk K 0) (hT : TOk K 0 T) (hq : AskH M K T n) (hv : Va K 0 x) (hd : 0 ≤ dp ∧ dp ≤ 18) (hn : n + 1 ≤ 16) (k : Q (some (vI (x))) (apL 246 247 3 M [20])) : Ok (d + 1) 11 0 [some (vR (some 246)), some (vI 20), some (vI x), some (vI dp)] [] M Q := by
  refine k_iload_n i_11_0 rfl ?_
  refine k_bipush i_11_1 (by decide) ?_
  refine k_icmp_le (t := 8) i_11_3 rfl (fun h3 => ?_) (fun h3 => absurd (by omega) h3)
  refine k_aload_n i_11_8 rfl ?_
  refine k_iload_n i_11_9 rfl ?_
  refine k_invV (n := 1) (o' := 1) (av := [vR (some 246), vI 20]) (rest := []) (el := [some (vR (some 246)), some (vI 20)]) i_11_10 o_11 rfl v_12 rfl (s_246) rfl rfl rfl rfl rfl ?_
  refine c_12 (by have := hq.2.2; omega) ?_
  show Ok _ 11 13 [some (vR (some 246)), some (vI 20), some (vI x), some (vI dp)] [] (ap 246 247 3 M 20) _
  have hq0 := hq.ap 20
  have sb := hT.2.2.2.1 x hv
  have bb : 0 ≤ bel K T x ∧ bel K T x ≤ 3 := by unfold bel; have := hT.2.2.1; split <;> omega
  have hv2 : (0 ≤ x ∧ x < kPe K) ∨ (16 ≤ x ∧ x < 16 + 0) := hv
  have g0 := hKo.1
  have hvb := va_b hKo hv
  have mi9 := hT.2.2.1
  have es : M 29 x = tS T x := (hq.2.1.2.2.2.2.2.2 x hv).2.2.1
  refine k_iload_n i_11_13 rfl ?_
  refine k_tab (off := 144) (t := 158) i_11_14 rfl rfl ?_
  refine k_iload_n i_11_158 rfl ?_
  refine k_iret i_11_159 rfl ?_
  exact k

/-- ElbowQueue$Asks.given -/
theorem g_21 {d : Nat} {M : Mem} {Q : Option Vv → Mem → Prop} {K : Kt} {T : Tt} {x dp n : Int} (hKo : KOk K 0) (hT : TOk K 0 T) (hq : AskH M K T n) (hv : Va K 0 x) (hd : 0 ≤ dp ∧ dp ≤ 16) (hn : n + 2 ≤ 16) (k : Q (some (vI (x + bel K T x))) (apL 246 247 3 M [21, 20])) : Ok (d + 2) 11 0 [some (vR (some 246)), some (vI 21), some (vI x), some (vI dp)] [] M Q := by
  refine k_iload_n i_11_0 rfl ?_
  refine k_bipush i_11_1 (by decide) ?_
  refine k_icmp_le (t := 8) i_11_3 rfl (fun h3 => ?_) (fun h3 => absurd (by omega) h3)
  refine k_aload_n i_11_8 rfl ?_
  refine k_iload_n i_11_9 rfl ?_
  refine k_invV (n := 1) (o' := 1) (av := [vR (some 246), vI 21]) (rest := []) (el := [some (vR (some 246)), some (vI 21)]) i_11_10 o_11 rfl v_12 rfl (s_246) rfl rfl rfl rfl rfl ?_
  refine c_12 (by have := hq.2.2; omega) ?_
  show Ok _ 11 13 [some (vR (some 246)), some (vI 21), some (vI x), some (vI dp)] [] (ap 246 247 3 M 21) _
  have hq0 := hq.ap 21
  have sb := hT.2.2.2.1 x hv
  have bb : 0 ≤ bel K T x ∧ bel K T x ≤ 3 := by unfold bel; have := hT.2.2.1; split <;> omega
  have hv2 : (0 ≤ x ∧ x < kPe K) ∨ (16 ≤ x ∧ x < 16 + 0) := hv
  have g0 := hKo.1
  have hvb := va_b hKo hv
  have mi9 := hT.2.2.1
  have es : M 29 x = tS T x := (hq.2.1.2.2.2.2.2.2 x hv).2.2.1
  refine k_iload_n i_11_13 rfl ?_
  refine k_tab (off := 146) (t := 160) i_11_14 rfl rfl ?_
  refine k_aload_n i_11_160 rfl ?_
  refine k_bipush i_11_161 (by decide) ?_
  refine k_iload_n i_11_163 rfl ?_
  refine k_iload_n i_11_164 rfl ?_
  refine k_iconst i_11_165 (by decide) ?_
  refine k_iadd i_11_166 (by omega) ?_
  refine k_invV (n := 3) (o' := 1) (av := [vR (some 246), vI 20, vI x, vI (dp + 1)]) (rest := []) (el := [some (vR (some 246)), some (vI 20), some (vI x), some (vI (dp + 1))]) i_11_167 o_11 rfl v_11 rfl (s_246) rfl rfl rfl rfl rfl ?_
  refine g_20 (d := d + 0) (dp := dp + 1) hKo hT hq0 hv (by omega) (by first | omega | (simp only [List.length_cons, List.length_nil]; omega)) ?_
  show Ok _ 11 170 [some (vR (some 246)), some (vI 21), some (vI x), some (vI dp)] [vI x] (apL 246 247 3 (ap 246 247 3 M 21) [20]) _
  have hq0 := hq0.apl [20]
  refine k_aload_n i_11_170 rfl ?_
  refine k_getR (r := 25) i_11_171 o_11 rfl (by decide) (s_246) rfl ?_
  refine k_iload_n i_11_174 rfl ?_
  refine k_invV (n := 1) (o' := 6) (av := [vR (some 25), vI x]) (rest := [vI x]) (el := [some (vR (some 25)), some (vI x)]) i_11_175 o_11 rfl v_63 rfl (s_25) rfl rfl rfl rfl rfl ?_
  refine c_63 tw_25 (by omega) hKo (hq0.1) hq0.2.1.p hv (fun wd hwd => ?_)
  show Ok _ 11 178 [some (vR (some 246)), some (vI 21), some (vI x), some (vI dp)] [vI wd, vI x] (apL 246 247 3 (ap 246 247 3 M 21) [20]) _
  rw [show wd = bel K T x from hwd]
  refine k_iadd i_11_178 (by omega) ?_
  refine k_iret i_11_179 rfl ?_
  exact k

/-- ElbowQueue$Asks.given -/
theorem g_22 {d : Nat} {M : Mem} {Q : Option Vv → Mem → Prop} {K : Kt} {T : Tt} {x dp n : Int} (hKo : KOk K 0) (hT : TOk K 0 T) (hq : AskH M K T n) (hv : Va K 0 x) (hd : 0 ≤ dp ∧ dp ≤ 14) (hn : n + 3 ≤ 16) (k : Q (some (vI (x + bel K T x - 1000))) (apL 246 247 3 M [22, 21, 20])) : Ok (d + 3) 11 0 [some (vR (some 246)), some (vI 22), some (vI x), some (vI dp)] [] M Q := by
  refine k_iload_n i_11_0 rfl ?_
  refine k_bipush i_11_1 (by decide) ?_
  refine k_icmp_le (t := 8) i_11_3 rfl (fun h3 => ?_) (fun h3 => absurd (by omega) h3)
  refine k_aload_n i_11_8 rfl ?_
  refine k_iload_n i_11_9 rfl ?_
  refine k_invV (n := 1) (o' := 1) (av := [vR (some 246), vI 22]) (rest := []) (el := [some (vR (some 246)), some (vI 22)]) i_11_10 o_11 rfl v_12 rfl (s_246) rfl rfl rfl rfl rfl ?_
  refine c_12 (by have := hq.2.2; omega) ?_
  show Ok _ 11 13 [some (vR (some 246)), some (vI 22), some (vI x), some (vI dp)] [] (ap 246 247 3 M 22) _
  have hq0 := hq.ap 22
  have sb := hT.2.2.2.1 x hv
  have bb : 0 ≤ bel K T x ∧ bel K T x ≤ 3 := by unfold bel; have := hT.2.2.1; split <;> omega
  have hv2 : (0 ≤ x ∧ x < kPe K) ∨ (16 ≤ x ∧ x < 16 + 0) := hv
  have g0 := hKo.1
  have hvb := va_b hKo hv
  have mi9 := hT.2.2.1
  have es : M 29 x = tS T x := (hq.2.1.2.2.2.2.2.2 x hv).2.2.1
  refine k_iload_n i_11_13 rfl ?_
  refine k_tab (off := 166) (t := 180) i_11_14 rfl rfl ?_
  refine k_aload_n i_11_180 rfl ?_
  refine k_bipush i_11_181 (by decide) ?_
  refine k_iload_n i_11_183 rfl ?_
  refine k_iload_n i_11_184 rfl ?_
  refine k_iconst i_11_185 (by decide) ?_
  refine k_iadd i_11_186 (by omega) ?_
  refine k_invV (n := 3) (o' := 1) (av := [vR (some 246), vI 21, vI x, vI (dp + 1)]) (rest := []) (el := [some (vR (some 246)), some (vI 21), some (vI x), some (vI (dp + 1))]) i_11_187 o_11 rfl v_11 rfl (s_246) rfl rfl rfl rfl rfl ?_
  refine g_21 (d := d + 0) (dp := dp + 1) hKo hT hq0 hv (by omega) (by first | omega | (simp only [List.length_cons, List.length_nil]; omega)) ?_
  show Ok _ 11 190 [some (vR (some 246)), some (vI 22), some (vI x), some (vI dp)] [vI (x + bel K T x)] (apL 246 247 3 (ap 246 247 3 M 22) [21, 20]) _
  refine k_sipush i_11_190 (by decide) ?_
  refine k_isub i_11_193 (by omega) ?_
  refine k_iret i_11_194 rfl ?_
  exact k

/-- ElbowQueue$Asks.given -/
theorem g_24 {d : Nat} {M : Mem} {Q : Option Vv → Mem → Prop} {K : Kt} {T : Tt} {x dp n : Int} (hKo : KOk K 0) (hT : TOk K 0 T) (hq : AskH M K T n) (hv : Va K 0 x) (hd : 0 ≤ dp ∧ dp ≤ 14) (hn : n + 3 ≤ 16) (k : Q (some (vI (2 * (x + bel K T x)))) (apL 246 247 3 M [24, 21, 20])) : Ok (d + 3) 11 0 [some (vR (some 246)), some (vI 24), some (vI x), some (vI dp)] [] M Q := by
  refine k_iload_n i_11_0 rfl ?_
  refine k_bipush i_11_1 (by decide) ?_
  refine k_icmp_le (t := 8) i_11_3 rfl (fun h3 => ?_) (fun h3 => absurd (by omega) h3)
  refine k_aload_n i_11_8 rfl ?_
  refine k_iload_n i_11_9 rfl ?_
  refine k_invV (n := 1) (o' := 1) (av := [vR (some 246), vI 24]) (rest := []) (el := [some (vR (some 246)), some (vI 24)]) i_11_10 o_11 rfl v_12 rfl (s_246) rfl rfl rfl rfl rfl ?_
  refine c_12 (by have := hq.2.2; omega) ?_
  show Ok _ 11 13 [some (vR (some 246)), some (vI 24), some (vI x), some (vI dp)] [] (ap 246 247 3 M 24) _
  have hq0 := hq.ap 24
  have sb := hT.2.2.2.1 x hv
  have bb : 0 ≤ bel K T x ∧ bel K T x ≤ 3 := by unfold bel; have := hT.2.2.1; split <;> omega
  have hv2 : (0 ≤ x ∧ x < kPe K) ∨ (16 ≤ x ∧ x < 16 + 0) := hv
  have g0 := hKo.1
  have hvb := va_b hKo hv
  have mi9 := hT.2.2.1
  have es : M 29 x = tS T x := (hq.2.1.2.2.2.2.2.2 x hv).2.2.1
  refine k_iload_n i_11_13 rfl ?_
  refine k_tab (off := 202) (t := 216) i_11_14 rfl rfl ?_
  refine k_iconst i_11_216 (by decide) ?_
  refine k_aload_n i_11_217 rfl ?_
  refine k_bipush i_11_218 (by decide) ?_
  refine k_iload_n i_11_220 rfl ?_
  refine k_iload_n i_11_221 rfl ?_
  refine k_iconst i_11_222 (by decide) ?_
  refine k_iadd i_11_223 (by omega) ?_
  refine k_invV (n := 3) (o' := 1) (av := [vR (some 246), vI 21, vI x, vI (dp + 1)]) (rest := [vI 2]) (el := [some (vR (some 246)), some (vI 21), some (vI x), some (vI (dp + 1))]) i_11_224 o_11 rfl v_11 rfl (s_246) rfl rfl rfl rfl rfl ?_
  refine g_21 (d := d + 0) (dp := dp + 1) hKo hT hq0 hv (by omega) (by first | omega | (simp only [List.length_cons, List.length_nil]; omega)) ?_
  show Ok _ 11 227 [some (vR (some 246)), some (vI 24), some (vI x), some (vI dp)] [vI (x + bel K T x), vI 2] (apL 246 247 3 (ap 246 247 3 M 24) [21, 20]) _
  refine k_imul i_11_227 (by omega) ?_
  refine k_iret i_11_228 rfl ?_
  exact k

/-- ElbowQueue$Asks.given -/
theorem g_13 {d : Nat} {M : Mem} {Q : Option Vv → Mem → Prop} {K : Kt} {T : Tt} {x dp n : Int} (hKo : KOk K 0) (hT : TOk K 0 T) (hq : AskH M K T n) (hv : Va K 0 x) (hd : 0 ≤ dp ∧ dp ≤ 16) (hn : n + 2 ≤ 16) (k : Q (some (vI (tS T x - 100))) (apL 246 247 3 M [13, 10])) : Ok (d + 2) 11 0 [some (vR (some 246)), some (vI 13), some (vI x), some (vI dp)] [] M Q := by
  refine k_iload_n i_11_0 rfl ?_
  refine k_bipush i_11_1 (by decide) ?_
  refine k_icmp_le (t := 8) i_11_3 rfl (fun h3 => ?_) (fun h3 => absurd (by omega) h3)
  refine k_aload_n i_11_8 rfl ?_
  refine k_iload_n i_11_9 rfl ?_
  refine k_invV (n := 1) (o' := 1) (av := [vR (some 246), vI 13]) (rest := []) (el := [some (vR (some 246)), some (vI 13)]) i_11_10 o_11 rfl v_12 rfl (s_246) rfl rfl rfl rfl rfl ?_
  refine c_12 (by have := hq.2.2; omega) ?_
  show Ok _ 11 13 [some (vR (some 246)), some (vI 13), some (vI x), some (vI dp)] [] (ap 246 247 3 M 13) _
  have hq0 := hq.ap 13
  have sb := hT.2.2.2.1 x hv
  have bb : 0 ≤ bel K T x ∧ bel K T x ≤ 3 := by unfold bel; have := hT.2.2.1; split <;> omega
  have hv2 : (0 ≤ x ∧ x < kPe K) ∨ (16 ≤ x ∧ x < 16 + 0) := hv
  have g0 := hKo.1
  have hvb := va_b hKo hv
  have mi9 := hT.2.2.1
  have es : M 29 x = tS T x := (hq.2.1.2.2.2.2.2.2 x hv).2.2.1
  refine k_iload_n i_11_13 rfl ?_
  refine k_tab (off := 117) (t := 131) i_11_14 rfl rfl ?_
  refine k_aload_n i_11_131 rfl ?_
  refine k_bipush i_11_132 (by decide) ?_
  refine k_iload_n i_11_134 rfl ?_
  refine k_iload_n i_11_135 rfl ?_
  refine k_iconst i_11_136 (by decide) ?_
  refine k_iadd i_11_137 (by omega) ?_
  refine k_invV (n := 3) (o' := 1) (av := [vR (some 246), vI 10, vI x, vI (dp + 1)]) (rest := []) (el := [some (vR (some 246)), some (vI 10), some (vI x), some (vI (dp + 1))]) i_11_138 o_11 rfl v_11 rfl (s_246) rfl rfl rfl rfl rfl ?_
  refine g_10 (d := d + 0) (dp := dp + 1) hKo hT hq0 hv (by omega) (by first | omega | (simp only [List.length_cons, List.length_nil]; omega)) ?_
  show Ok _ 11 141 [some (vR (some 246)), some (vI 13), some (vI x), some (vI dp)] [vI (tS T x)] (apL 246 247 3 (ap 246 247 3 M 13) [10]) _
  refine k_bipush i_11_141 (by decide) ?_
  refine k_isub i_11_143 (by omega) ?_
  refine k_iret i_11_144 rfl ?_
  exact k

/-- ElbowQueue$Asks.given -/
theorem g_14 {d : Nat} {M : Mem} {Q : Option Vv → Mem → Prop} {K : Kt} {T : Tt} {x dp n : Int} (hKo : KOk K 0) (hT : TOk K 0 T) (hq : AskH M K T n) (hv : Va K 0 x) (hd : 0 ≤ dp ∧ dp ≤ 14) (hn : n + 3 ≤ 16) (k : Q (some (vI (2 * (tS T x - 100)))) (apL 246 247 3 M [14, 13, 10])) : Ok (d + 3) 11 0 [some (vR (some 246)), some (vI 14), some (vI x), some (vI dp)] [] M Q := by
  refine k_iload_n i_11_0 rfl ?_
  refine k_bipush i_11_1 (by decide) ?_
  refine k_icmp_le (t := 8) i_11_3 rfl (fun h3 => ?_) (fun h3 => absurd (by omega) h3)
  refine k_aload_n i_11_8 rfl ?_
  refine k_iload_n i_11_9 rfl ?_
  refine k_invV (n := 1) (o' := 1) (av := [vR (some 246), vI 14]) (rest := []) (el := [some (vR (some 246)), some (vI 14)]) i_11_10 o_11 rfl v_12 rfl (s_246) rfl rfl rfl rfl rfl ?_
  refine c_12 (by have := hq.2.2; omega) ?_
  show Ok _ 11 13 [some (vR (some 246)), some (vI 14), some (vI x), some (vI dp)] [] (ap 246 247 3 M 14) _
  have hq0 := hq.ap 14
  have sb := hT.2.2.2.1 x hv
  have bb : 0 ≤ bel K T x ∧ bel K T x ≤ 3 := by unfold bel; have := hT.2.2.1; split <;> omega
  have hv2 : (0 ≤ x ∧ x < kPe K) ∨ (16 ≤ x ∧ x < 16 + 0) := hv
  have g0 := hKo.1
  have hvb := va_b hKo hv
  have mi9 := hT.2.2.1
  have es : M 29 x = tS T x := (hq.2.1.2.2.2.2.2.2 x hv).2.2.1
  refine k_iload_n i_11_13 rfl ?_
  refine k_tab (off := 131) (t := 145) i_11_14 rfl rfl ?_
  refine k_iconst i_11_145 (by decide) ?_
  refine k_aload_n i_11_146 rfl ?_
  refine k_bipush i_11_147 (by decide) ?_
  refine k_iload_n i_11_149 rfl ?_
  refine k_iload_n i_11_150 rfl ?_
  refine k_iconst i_11_151 (by decide) ?_
  refine k_iadd i_11_152 (by omega) ?_
  refine k_invV (n := 3) (o' := 1) (av := [vR (some 246), vI 13, vI x, vI (dp + 1)]) (rest := [vI 2]) (el := [some (vR (some 246)), some (vI 13), some (vI x), some (vI (dp + 1))]) i_11_153 o_11 rfl v_11 rfl (s_246) rfl rfl rfl rfl rfl ?_
  refine g_13 (d := d + 0) (dp := dp + 1) hKo hT hq0 hv (by omega) (by first | omega | (simp only [List.length_cons, List.length_nil]; omega)) ?_
  show Ok _ 11 156 [some (vR (some 246)), some (vI 14), some (vI x), some (vI dp)] [vI (tS T x - 100), vI 2] (apL 246 247 3 (ap 246 247 3 M 14) [13, 10]) _
  refine k_imul i_11_156 (by omega) ?_
  refine k_iret i_11_157 rfl ?_
  exact k

/-- ElbowQueue$Asks.asked -/
theorem a_4_0 {d : Nat} {M : Mem} {Q : Option Vv → Mem → Prop} {K : Kt} {T : Tt} {x dp n : Int} (hKo : KOk K 0) (hT : TOk K 0 T) (hq : AskH M K T n) (hv : Va K 0 x) (hd : 0 ≤ dp ∧ dp ≤ 15) (hk : kKd K x = 4) (hn : n + 2 ≤ 16) (k : Q (some (vI (tS T x - 100))) (apL 246 247 3 M [13, 10])) : Ok (d + 3) 9 0 [some (vR (some 246)), some (vI x), some (vI 0), some (vI dp), none, none] [] M Q := by
  have hvb := va_b hKo hv
  have e1 : M 21 x = 4 := by rw [(hq.1.2.2 x hv).1]; exact hk
  refine k_aload_n i_9_0 rfl ?_
  refine k_getR (r := 20) i_9_1 o_9 rfl (by decide) (s_246) rfl ?_
  refine k_getR (r := 21) i_9_4 o_9 rfl (by decide) (s_20) rfl ?_
  refine k_iload_n i_9_7 rfl ?_
  refine k_iald i_9_8 (s_21) (by omega) ?_
  rw [e1]
  refine k_istore (ls' := [some (vR (some 246)), some (vI x), some (vI 0), some (vI dp), some (vI 4), none]) i_9_9 rfl ?_
  refine k_iconst i_9_11 (by decide) ?_
  refine k_istore (ls' := [some (vR (some 246)), some (vI x), some (vI 0), some (vI dp), some (vI 4), some (vI 0)]) i_9_12 rfl ?_
  refine k_iload i_9_14 rfl ?_
  refine k_bipush i_9_16 (by decide) ?_
  refine k_icmp_ge (t := 44) i_9_18 rfl (fun h18 => absurd h18 (by decide)) (fun h18 => ?_)
  refine k_iload i_9_21 rfl ?_
  refine k_iload_n i_9_23 rfl ?_
  refine k_invS (n := 2) (av := [vI 4, vI 0]) (rest := []) (el := [some (vI 4), some (vI 0), none]) i_9_24 o_9 rfl v_10 rfl rfl rfl rfl rfl rfl ?_
  refine c_10_4_0 ?_
  show Ok _ 9 27 [some (vR (some 246)), some (vI x), some (vI 0), some (vI dp), some (vI 4), some (vI 0)] [vI 13] (M) _
  refine k_if_ne (t := 44) i_9_27 rfl (fun h27 => ?_) (fun h27 => absurd h27 (by decide))
  refine k_aload_n i_9_44 rfl ?_
  refine k_iload i_9_45 rfl ?_
  refine k_iload_n i_9_47 rfl ?_
  refine k_invS (n := 2) (av := [vI 4, vI 0]) (rest := [vR (some 246)]) (el := [some (vI 4), some (vI 0), none]) i_9_48 o_9 rfl v_10 rfl rfl rfl rfl rfl rfl ?_
  refine c_10_4_0 ?_
  show Ok _ 9 51 [some (vR (some 246)), some (vI x), some (vI 0), some (vI dp), some (vI 4), some (vI 0)] [vI 13, vR (some 246)] (M) _
  refine k_iload_n i_9_51 rfl ?_
  refine k_iload_n i_9_52 rfl ?_
  refine k_iconst i_9_53 (by decide) ?_
  refine k_iadd i_9_54 (by omega) ?_
  refine k_invV (n := 3) (o' := 1) (av := [vR (some 246), vI 13, vI x, vI (dp + 1)]) (rest := []) (el := [some (vR (some 246)), some (vI 13), some (vI x), some (vI (dp + 1))]) i_9_55 o_9 rfl v_11 rfl (s_246) rfl rfl rfl rfl rfl ?_
  refine g_13 (dp := dp + 1) hKo hT hq hv (by omega) hn ?_
  show Ok _ 9 58 [some (vR (some 246)), some (vI x), some (vI 0), some (vI dp), some (vI 4), some (vI 0)] [vI (tS T x - 100)] (apL 246 247 3 M [13, 10]) _
  refine k_iret i_9_58 rfl ?_
  exact k

/-- ElbowQueue$Asks.asked -/
theorem a_5_0 {d : Nat} {M : Mem} {Q : Option Vv → Mem → Prop} {K : Kt} {T : Tt} {x dp n : Int} (hKo : KOk K 0) (hT : TOk K 0 T) (hq : AskH M K T n) (hv : Va K 0 x) (hd : 0 ≤ dp ∧ dp ≤ 13) (hk : kKd K x = 5) (hn : n + 3 ≤ 16) (k : Q (some (vI (2 * (tS T x - 100)))) (apL 246 247 3 M [14, 13, 10])) : Ok (d + 4) 9 0 [some (vR (some 246)), some (vI x), some (vI 0), some (vI dp), none, none] [] M Q := by
  have hvb := va_b hKo hv
  have e1 : M 21 x = 5 := by rw [(hq.1.2.2 x hv).1]; exact hk
  refine k_aload_n i_9_0 rfl ?_
  refine k_getR (r := 20) i_9_1 o_9 rfl (by decide) (s_246) rfl ?_
  refine k_getR (r := 21) i_9_4 o_9 rfl (by decide) (s_20) rfl ?_
  refine k_iload_n i_9_7 rfl ?_
  refine k_iald i_9_8 (s_21) (by omega) ?_
  rw [e1]
  refine k_istore (ls' := [some (vR (some 246)), some (vI x), some (vI 0), some (vI dp), some (vI 5), none]) i_9_9 rfl ?_
  refine k_iconst i_9_11 (by decide) ?_
  refine k_istore (ls' := [some (vR (some 246)), some (vI x), some (vI 0), some (vI dp), some (vI 5), some (vI 0)]) i_9_12 rfl ?_
  refine k_iload i_9_14 rfl ?_
  refine k_bipush i_9_16 (by decide) ?_
  refine k_icmp_ge (t := 44) i_9_18 rfl (fun h18 => absurd h18 (by decide)) (fun h18 => ?_)
  refine k_iload i_9_21 rfl ?_
  refine k_iload_n i_9_23 rfl ?_
  refine k_invS (n := 2) (av := [vI 5, vI 0]) (rest := []) (el := [some (vI 5), some (vI 0), none]) i_9_24 o_9 rfl v_10 rfl rfl rfl rfl rfl rfl ?_
  refine c_10_5_0 ?_
  show Ok _ 9 27 [some (vR (some 246)), some (vI x), some (vI 0), some (vI dp), some (vI 5), some (vI 0)] [vI 14] (M) _
  refine k_if_ne (t := 44) i_9_27 rfl (fun h27 => ?_) (fun h27 => absurd h27 (by decide))
  refine k_aload_n i_9_44 rfl ?_
  refine k_iload i_9_45 rfl ?_
  refine k_iload_n i_9_47 rfl ?_
  refine k_invS (n := 2) (av := [vI 5, vI 0]) (rest := [vR (some 246)]) (el := [some (vI 5), some (vI 0), none]) i_9_48 o_9 rfl v_10 rfl rfl rfl rfl rfl rfl ?_
  refine c_10_5_0 ?_
  show Ok _ 9 51 [some (vR (some 246)), some (vI x), some (vI 0), some (vI dp), some (vI 5), some (vI 0)] [vI 14, vR (some 246)] (M) _
  refine k_iload_n i_9_51 rfl ?_
  refine k_iload_n i_9_52 rfl ?_
  refine k_iconst i_9_53 (by decide) ?_
  refine k_iadd i_9_54 (by omega) ?_
  refine k_invV (n := 3) (o' := 1) (av := [vR (some 246), vI 14, vI x, vI (dp + 1)]) (rest := []) (el := [some (vR (some 246)), some (vI 14), some (vI x), some (vI (dp + 1))]) i_9_55 o_9 rfl v_11 rfl (s_246) rfl rfl rfl rfl rfl ?_
  refine g_14 (dp := dp + 1) hKo hT hq hv (by omega) hn ?_
  show Ok _ 9 58 [some (vR (some 246)), some (vI x), some (vI 0), some (vI dp), some (vI 5), some (vI 0)] [vI (2 * (tS T x - 100))] (apL 246 247 3 M [14, 13, 10]) _
  refine k_iret i_9_58 rfl ?_
  exact k

/-- ElbowQueue$Asks.given -/
theorem g_23_4 {d : Nat} {M : Mem} {Q : Option Vv → Mem → Prop} {K : Kt} {T : Tt} {x dp n : Int} (hKo : KOk K 0) (hT : TOk K 0 T) (hq : AskH M K T n) (hv : Va K 0 x) (hd : 0 ≤ dp ∧ dp ≤ 12) (hk : kKd K x = 4) (hn : n + 4 ≤ 16) (k : Q (some (vI (x - (tS T x - 100)))) (apL 246 247 3 M [23, 20, 13, 10])) : Ok (d + 4) 11 0 [some (vR (some 246)), some (vI 23), some (vI x), some (vI dp)] [] M Q := by
  refine k_iload_n i_11_0 rfl ?_
  refine k_bipush i_11_1 (by decide) ?_
  refine k_icmp_le (t := 8) i_11_3 rfl (fun h3 => ?_) (fun h3 => absurd (by omega) h3)
  refine k_aload_n i_11_8 rfl ?_
  refine k_iload_n i_11_9 rfl ?_
  refine k_invV (n := 1) (o' := 1) (av := [vR (some 246), vI 23]) (rest := []) (el := [some (vR (some 246)), some (vI 23)]) i_11_10 o_11 rfl v_12 rfl (s_246) rfl rfl rfl rfl rfl ?_
  refine c_12 (by have := hq.2.2; omega) ?_
  show Ok _ 11 13 [some (vR (some 246)), some (vI 23), some (vI x), some (vI dp)] [] (ap 246 247 3 M 23) _
  have hq0 := hq.ap 23
  have sb := hT.2.2.2.1 x hv
  have bb : 0 ≤ bel K T x ∧ bel K T x ≤ 3 := by unfold bel; have := hT.2.2.1; split <;> omega
  have hv2 : (0 ≤ x ∧ x < kPe K) ∨ (16 ≤ x ∧ x < 16 + 0) := hv
  have g0 := hKo.1
  have hvb := va_b hKo hv
  have mi9 := hT.2.2.1
  have es : M 29 x = tS T x := (hq.2.1.2.2.2.2.2.2 x hv).2.2.1
  refine k_iload_n i_11_13 rfl ?_
  refine k_tab (off := 181) (t := 195) i_11_14 rfl rfl ?_
  refine k_aload_n i_11_195 rfl ?_
  refine k_bipush i_11_196 (by decide) ?_
  refine k_iload_n i_11_198 rfl ?_
  refine k_iload_n i_11_199 rfl ?_
  refine k_iconst i_11_200 (by decide) ?_
  refine k_iadd i_11_201 (by omega) ?_
  refine k_invV (n := 3) (o' := 1) (av := [vR (some 246), vI 20, vI x, vI (dp + 1)]) (rest := []) (el := [some (vR (some 246)), some (vI 20), some (vI x), some (vI (dp + 1))]) i_11_202 o_11 rfl v_11 rfl (s_246) rfl rfl rfl rfl rfl ?_
  refine g_20 (d := d + 2) (dp := dp + 1) hKo hT hq0 hv (by omega) (by first | omega | (simp only [List.length_cons, List.length_nil]; omega)) ?_
  show Ok _ 11 205 [some (vR (some 246)), some (vI 23), some (vI x), some (vI dp)] [vI x] (apL 246 247 3 (ap 246 247 3 M 23) [20]) _
  have hq1 := hq0.apl [20]
  refine k_aload_n i_11_205 rfl ?_
  refine k_iload_n i_11_206 rfl ?_
  refine k_iconst i_11_207 (by decide) ?_
  refine k_iload_n i_11_208 rfl ?_
  refine k_iconst i_11_209 (by decide) ?_
  refine k_iadd i_11_210 (by omega) ?_
  refine k_invV (n := 3) (o' := 1) (av := [vR (some 246), vI x, vI 0, vI (dp + 1)]) (rest := [vI x]) (el := [some (vR (some 246)), some (vI x), some (vI 0), some (vI (dp + 1)), none, none]) i_11_211 o_11 rfl v_9 rfl (s_246) rfl rfl rfl rfl rfl ?_
  refine a_4_0 (d := d + 0) (dp := dp + 1) hKo hT hq1 hv (by omega) hk (by first | omega | (simp only [List.length_cons, List.length_nil]; omega)) ?_
  show Ok _ 11 214 [some (vR (some 246)), some (vI 23), some (vI x), some (vI dp)] [vI (tS T x - 100), vI x] (apL 246 247 3 (apL 246 247 3 (ap 246 247 3 M 23) [20]) [13, 10]) _
  refine k_isub i_11_214 (by omega) ?_
  refine k_iret i_11_215 rfl ?_
  exact k

/-- ElbowQueue$Asks.given -/
theorem g_23_5 {d : Nat} {M : Mem} {Q : Option Vv → Mem → Prop} {K : Kt} {T : Tt} {x dp n : Int} (hKo : KOk K 0) (hT : TOk K 0 T) (hq : AskH M K T n) (hv : Va K 0 x) (hd : 0 ≤ dp ∧ dp ≤ 10) (hk : kKd K x = 5) (hn : n + 5 ≤ 16) (k : Q (some (vI (x - (2 * (tS T x - 100))))) (apL 246 247 3 M [23, 20, 14, 13, 10])) : Ok (d + 5) 11 0 [some (vR (some 246)), some (vI 23), some (vI x), some (vI dp)] [] M Q := by
  refine k_iload_n i_11_0 rfl ?_
  refine k_bipush i_11_1 (by decide) ?_
  refine k_icmp_le (t := 8) i_11_3 rfl (fun h3 => ?_) (fun h3 => absurd (by omega) h3)
  refine k_aload_n i_11_8 rfl ?_
  refine k_iload_n i_11_9 rfl ?_
  refine k_invV (n := 1) (o' := 1) (av := [vR (some 246), vI 23]) (rest := []) (el := [some (vR (some 246)), some (vI 23)]) i_11_10 o_11 rfl v_12 rfl (s_246) rfl rfl rfl rfl rfl ?_
  refine c_12 (by have := hq.2.2; omega) ?_
  show Ok _ 11 13 [some (vR (some 246)), some (vI 23), some (vI x), some (vI dp)] [] (ap 246 247 3 M 23) _
  have hq0 := hq.ap 23
  have sb := hT.2.2.2.1 x hv
  have bb : 0 ≤ bel K T x ∧ bel K T x ≤ 3 := by unfold bel; have := hT.2.2.1; split <;> omega
  have hv2 : (0 ≤ x ∧ x < kPe K) ∨ (16 ≤ x ∧ x < 16 + 0) := hv
  have g0 := hKo.1
  have hvb := va_b hKo hv
  have mi9 := hT.2.2.1
  have es : M 29 x = tS T x := (hq.2.1.2.2.2.2.2.2 x hv).2.2.1
  refine k_iload_n i_11_13 rfl ?_
  refine k_tab (off := 181) (t := 195) i_11_14 rfl rfl ?_
  refine k_aload_n i_11_195 rfl ?_
  refine k_bipush i_11_196 (by decide) ?_
  refine k_iload_n i_11_198 rfl ?_
  refine k_iload_n i_11_199 rfl ?_
  refine k_iconst i_11_200 (by decide) ?_
  refine k_iadd i_11_201 (by omega) ?_
  refine k_invV (n := 3) (o' := 1) (av := [vR (some 246), vI 20, vI x, vI (dp + 1)]) (rest := []) (el := [some (vR (some 246)), some (vI 20), some (vI x), some (vI (dp + 1))]) i_11_202 o_11 rfl v_11 rfl (s_246) rfl rfl rfl rfl rfl ?_
  refine g_20 (d := d + 3) (dp := dp + 1) hKo hT hq0 hv (by omega) (by first | omega | (simp only [List.length_cons, List.length_nil]; omega)) ?_
  show Ok _ 11 205 [some (vR (some 246)), some (vI 23), some (vI x), some (vI dp)] [vI x] (apL 246 247 3 (ap 246 247 3 M 23) [20]) _
  have hq1 := hq0.apl [20]
  refine k_aload_n i_11_205 rfl ?_
  refine k_iload_n i_11_206 rfl ?_
  refine k_iconst i_11_207 (by decide) ?_
  refine k_iload_n i_11_208 rfl ?_
  refine k_iconst i_11_209 (by decide) ?_
  refine k_iadd i_11_210 (by omega) ?_
  refine k_invV (n := 3) (o' := 1) (av := [vR (some 246), vI x, vI 0, vI (dp + 1)]) (rest := [vI x]) (el := [some (vR (some 246)), some (vI x), some (vI 0), some (vI (dp + 1)), none, none]) i_11_211 o_11 rfl v_9 rfl (s_246) rfl rfl rfl rfl rfl ?_
  refine a_5_0 (d := d + 0) (dp := dp + 1) hKo hT hq1 hv (by omega) hk (by first | omega | (simp only [List.length_cons, List.length_nil]; omega)) ?_
  show Ok _ 11 214 [some (vR (some 246)), some (vI 23), some (vI x), some (vI dp)] [vI (2 * (tS T x - 100)), vI x] (apL 246 247 3 (apL 246 247 3 (ap 246 247 3 M 23) [20]) [14, 13, 10]) _
  refine k_isub i_11_214 (by omega) ?_
  refine k_iret i_11_215 rfl ?_
  exact k

/-- ElbowQueue$Asks.asked -/
theorem a_1_1 {d : Nat} {M : Mem} {Q : Option Vv → Mem → Prop} {K : Kt} {T : Tt} {x dp n : Int} (hKo : KOk K 0) (hT : TOk K 0 T) (hq : AskH M K T n) (hv : Va K 0 x) (hd : 0 ≤ dp ∧ dp ≤ 15) (hk : kKd K x = 1) (hn : n + 2 ≤ 16) (k : Q (some (vI (x + bel K T x))) (apL 246 247 3 M [21, 20])) : Ok (d + 3) 9 0 [some (vR (some 246)), some (vI x), some (vI 1), some (vI dp), none, none] [] M Q := by
  have hvb := va_b hKo hv
  have e1 : M 21 x = 1 := by rw [(hq.1.2.2 x hv).1]; exact hk
  refine k_aload_n i_9_0 rfl ?_
  refine k_getR (r := 20) i_9_1 o_9 rfl (by decide) (s_246) rfl ?_
  refine k_getR (r := 21) i_9_4 o_9 rfl (by decide) (s_20) rfl ?_
  refine k_iload_n i_9_7 rfl ?_
  refine k_iald i_9_8 (s_21) (by omega) ?_
  rw [e1]
  refine k_istore (ls' := [some (vR (some 246)), some (vI x), some (vI 1), some (vI dp), some (vI 1), none]) i_9_9 rfl ?_
  refine k_iconst i_9_11 (by decide) ?_
  refine k_istore (ls' := [some (vR (some 246)), some (vI x), some (vI 1), some (vI dp), some (vI 1), some (vI 0)]) i_9_12 rfl ?_
  refine k_iload i_9_14 rfl ?_
  refine k_bipush i_9_16 (by decide) ?_
  refine k_icmp_ge (t := 44) i_9_18 rfl (fun h18 => absurd h18 (by decide)) (fun h18 => ?_)
  refine k_iload i_9_21 rfl ?_
  refine k_iload_n i_9_23 rfl ?_
  refine k_invS (n := 2) (av := [vI 1, vI 1]) (rest := []) (el := [some (vI 1), some (vI 1), none]) i_9_24 o_9 rfl v_10 rfl rfl rfl rfl rfl rfl ?_
  refine c_10_1_1 ?_
  show Ok _ 9 27 [some (vR (some 246)), some (vI x), some (vI 1), some (vI dp), some (vI 1), some (vI 0)] [vI 21] (M) _
  refine k_if_ne (t := 44) i_9_27 rfl (fun h27 => ?_) (fun h27 => absurd h27 (by decide))
  refine k_aload_n i_9_44 rfl ?_
  refine k_iload i_9_45 rfl ?_
  refine k_iload_n i_9_47 rfl ?_
  refine k_invS (n := 2) (av := [vI 1, vI 1]) (rest := [vR (some 246)]) (el := [some (vI 1), some (vI 1), none]) i_9_48 o_9 rfl v_10 rfl rfl rfl rfl rfl rfl ?_
  refine c_10_1_1 ?_
  show Ok _ 9 51 [some (vR (some 246)), some (vI x), some (vI 1), some (vI dp), some (vI 1), some (vI 0)] [vI 21, vR (some 246)] (M) _
  refine k_iload_n i_9_51 rfl ?_
  refine k_iload_n i_9_52 rfl ?_
  refine k_iconst i_9_53 (by decide) ?_
  refine k_iadd i_9_54 (by omega) ?_
  refine k_invV (n := 3) (o' := 1) (av := [vR (some 246), vI 21, vI x, vI (dp + 1)]) (rest := []) (el := [some (vR (some 246)), some (vI 21), some (vI x), some (vI (dp + 1))]) i_9_55 o_9 rfl v_11 rfl (s_246) rfl rfl rfl rfl rfl ?_
  refine g_21 (dp := dp + 1) hKo hT hq hv (by omega) hn ?_
  show Ok _ 9 58 [some (vR (some 246)), some (vI x), some (vI 1), some (vI dp), some (vI 1), some (vI 0)] [vI (x + bel K T x)] (apL 246 247 3 M [21, 20]) _
  refine k_iret i_9_58 rfl ?_
  exact k

/-- ElbowQueue$Asks.asked -/
theorem a_2_1 {d : Nat} {M : Mem} {Q : Option Vv → Mem → Prop} {K : Kt} {T : Tt} {x dp n : Int} (hKo : KOk K 0) (hT : TOk K 0 T) (hq : AskH M K T n) (hv : Va K 0 x) (hd : 0 ≤ dp ∧ dp ≤ 13) (hk : kKd K x = 2) (hn : n + 3 ≤ 16) (k : Q (some (vI (2 * (x + bel K T x)))) (apL 246 247 3 M [24, 21, 20])) : Ok (d + 4) 9 0 [some (vR (some 246)), some (vI x), some (vI 1), some (vI dp), none, none] [] M Q := by
  have hvb := va_b hKo hv
  have e1 : M 21 x = 2 := by rw [(hq.1.2.2 x hv).1]; exact hk
  refine k_aload_n i_9_0 rfl ?_
  refine k_getR (r := 20) i_9_1 o_9 rfl (by decide) (s_246) rfl ?_
  refine k_getR (r := 21) i_9_4 o_9 rfl (by decide) (s_20) rfl ?_
  refine k_iload_n i_9_7 rfl ?_
  refine k_iald i_9_8 (s_21) (by omega) ?_
  rw [e1]
  refine k_istore (ls' := [some (vR (some 246)), some (vI x), some (vI 1), some (vI dp), some (vI 2), none]) i_9_9 rfl ?_
  refine k_iconst i_9_11 (by decide) ?_
  refine k_istore (ls' := [some (vR (some 246)), some (vI x), some (vI 1), some (vI dp), some (vI 2), some (vI 0)]) i_9_12 rfl ?_
  refine k_iload i_9_14 rfl ?_
  refine k_bipush i_9_16 (by decide) ?_
  refine k_icmp_ge (t := 44) i_9_18 rfl (fun h18 => absurd h18 (by decide)) (fun h18 => ?_)
  refine k_iload i_9_21 rfl ?_
  refine k_iload_n i_9_23 rfl ?_
  refine k_invS (n := 2) (av := [vI 2, vI 1]) (rest := []) (el := [some (vI 2), some (vI 1), none]) i_9_24 o_9 rfl v_10 rfl rfl rfl rfl rfl rfl ?_
  refine c_10_2_1 ?_
  show Ok _ 9 27 [some (vR (some 246)), some (vI x), some (vI 1), some (vI dp), some (vI 2), some (vI 0)] [vI 24] (M) _
  refine k_if_ne (t := 44) i_9_27 rfl (fun h27 => ?_) (fun h27 => absurd h27 (by decide))
  refine k_aload_n i_9_44 rfl ?_
  refine k_iload i_9_45 rfl ?_
  refine k_iload_n i_9_47 rfl ?_
  refine k_invS (n := 2) (av := [vI 2, vI 1]) (rest := [vR (some 246)]) (el := [some (vI 2), some (vI 1), none]) i_9_48 o_9 rfl v_10 rfl rfl rfl rfl rfl rfl ?_
  refine c_10_2_1 ?_
  show Ok _ 9 51 [some (vR (some 246)), some (vI x), some (vI 1), some (vI dp), some (vI 2), some (vI 0)] [vI 24, vR (some 246)] (M) _
  refine k_iload_n i_9_51 rfl ?_
  refine k_iload_n i_9_52 rfl ?_
  refine k_iconst i_9_53 (by decide) ?_
  refine k_iadd i_9_54 (by omega) ?_
  refine k_invV (n := 3) (o' := 1) (av := [vR (some 246), vI 24, vI x, vI (dp + 1)]) (rest := []) (el := [some (vR (some 246)), some (vI 24), some (vI x), some (vI (dp + 1))]) i_9_55 o_9 rfl v_11 rfl (s_246) rfl rfl rfl rfl rfl ?_
  refine g_24 (dp := dp + 1) hKo hT hq hv (by omega) hn ?_
  show Ok _ 9 58 [some (vR (some 246)), some (vI x), some (vI 1), some (vI dp), some (vI 2), some (vI 0)] [vI (2 * (x + bel K T x))] (apL 246 247 3 M [24, 21, 20]) _
  refine k_iret i_9_58 rfl ?_
  exact k

/-- ElbowQueue$Asks.asked -/
theorem a_3_1 {d : Nat} {M : Mem} {Q : Option Vv → Mem → Prop} {K : Kt} {T : Tt} {x dp n : Int} (hKo : KOk K 0) (hT : TOk K 0 T) (hq : AskH M K T n) (hv : Va K 0 x) (hd : 0 ≤ dp ∧ dp ≤ 13) (hk : kKd K x = 3) (hn : n + 3 ≤ 16) (k : Q (some (vI (x + bel K T x - 1000))) (apL 246 247 3 M [22, 21, 20])) : Ok (d + 4) 9 0 [some (vR (some 246)), some (vI x), some (vI 1), some (vI dp), none, none] [] M Q := by
  have hvb := va_b hKo hv
  have e1 : M 21 x = 3 := by rw [(hq.1.2.2 x hv).1]; exact hk
  refine k_aload_n i_9_0 rfl ?_
  refine k_getR (r := 20) i_9_1 o_9 rfl (by decide) (s_246) rfl ?_
  refine k_getR (r := 21) i_9_4 o_9 rfl (by decide) (s_20) rfl ?_
  refine k_iload_n i_9_7 rfl ?_
  refine k_iald i_9_8 (s_21) (by omega) ?_
  rw [e1]
  refine k_istore (ls' := [some (vR (some 246)), some (vI x), some (vI 1), some (vI dp), some (vI 3), none]) i_9_9 rfl ?_
  refine k_iconst i_9_11 (by decide) ?_
  refine k_istore (ls' := [some (vR (some 246)), some (vI x), some (vI 1), some (vI dp), some (vI 3), some (vI 0)]) i_9_12 rfl ?_
  refine k_iload i_9_14 rfl ?_
  refine k_bipush i_9_16 (by decide) ?_
  refine k_icmp_ge (t := 44) i_9_18 rfl (fun h18 => absurd h18 (by decide)) (fun h18 => ?_)
  refine k_iload i_9_21 rfl ?_
  refine k_iload_n i_9_23 rfl ?_
  refine k_invS (n := 2) (av := [vI 3, vI 1]) (rest := []) (el := [some (vI 3), some (vI 1), none]) i_9_24 o_9 rfl v_10 rfl rfl rfl rfl rfl rfl ?_
  refine c_10_3_1 ?_
  show Ok _ 9 27 [some (vR (some 246)), some (vI x), some (vI 1), some (vI dp), some (vI 3), some (vI 0)] [vI 22] (M) _
  refine k_if_ne (t := 44) i_9_27 rfl (fun h27 => ?_) (fun h27 => absurd h27 (by decide))
  refine k_aload_n i_9_44 rfl ?_
  refine k_iload i_9_45 rfl ?_
  refine k_iload_n i_9_47 rfl ?_
  refine k_invS (n := 2) (av := [vI 3, vI 1]) (rest := [vR (some 246)]) (el := [some (vI 3), some (vI 1), none]) i_9_48 o_9 rfl v_10 rfl rfl rfl rfl rfl rfl ?_
  refine c_10_3_1 ?_
  show Ok _ 9 51 [some (vR (some 246)), some (vI x), some (vI 1), some (vI dp), some (vI 3), some (vI 0)] [vI 22, vR (some 246)] (M) _
  refine k_iload_n i_9_51 rfl ?_
  refine k_iload_n i_9_52 rfl ?_
  refine k_iconst i_9_53 (by decide) ?_
  refine k_iadd i_9_54 (by omega) ?_
  refine k_invV (n := 3) (o' := 1) (av := [vR (some 246), vI 22, vI x, vI (dp + 1)]) (rest := []) (el := [some (vR (some 246)), some (vI 22), some (vI x), some (vI (dp + 1))]) i_9_55 o_9 rfl v_11 rfl (s_246) rfl rfl rfl rfl rfl ?_
  refine g_22 (dp := dp + 1) hKo hT hq hv (by omega) hn ?_
  show Ok _ 9 58 [some (vR (some 246)), some (vI x), some (vI 1), some (vI dp), some (vI 3), some (vI 0)] [vI (x + bel K T x - 1000)] (apL 246 247 3 M [22, 21, 20]) _
  refine k_iret i_9_58 rfl ?_
  exact k

/-- ElbowQueue$Asks.asked -/
theorem a_4_1 {d : Nat} {M : Mem} {Q : Option Vv → Mem → Prop} {K : Kt} {T : Tt} {x dp n : Int} (hKo : KOk K 0) (hT : TOk K 0 T) (hq : AskH M K T n) (hv : Va K 0 x) (hd : 0 ≤ dp ∧ dp ≤ 11) (hk : kKd K x = 4) (hn : n + 4 ≤ 16) (k : Q (some (vI (x - (tS T x - 100)))) (apL 246 247 3 M [23, 20, 13, 10])) : Ok (d + 5) 9 0 [some (vR (some 246)), some (vI x), some (vI 1), some (vI dp), none, none] [] M Q := by
  have hvb := va_b hKo hv
  have e1 : M 21 x = 4 := by rw [(hq.1.2.2 x hv).1]; exact hk
  refine k_aload_n i_9_0 rfl ?_
  refine k_getR (r := 20) i_9_1 o_9 rfl (by decide) (s_246) rfl ?_
  refine k_getR (r := 21) i_9_4 o_9 rfl (by decide) (s_20) rfl ?_
  refine k_iload_n i_9_7 rfl ?_
  refine k_iald i_9_8 (s_21) (by omega) ?_
  rw [e1]
  refine k_istore (ls' := [some (vR (some 246)), some (vI x), some (vI 1), some (vI dp), some (vI 4), none]) i_9_9 rfl ?_
  refine k_iconst i_9_11 (by decide) ?_
  refine k_istore (ls' := [some (vR (some 246)), some (vI x), some (vI 1), some (vI dp), some (vI 4), some (vI 0)]) i_9_12 rfl ?_
  refine k_iload i_9_14 rfl ?_
  refine k_bipush i_9_16 (by decide) ?_
  refine k_icmp_ge (t := 44) i_9_18 rfl (fun h18 => absurd h18 (by decide)) (fun h18 => ?_)
  refine k_iload i_9_21 rfl ?_
  refine k_iload_n i_9_23 rfl ?_
  refine k_invS (n := 2) (av := [vI 4, vI 1]) (rest := []) (el := [some (vI 4), some (vI 1), none]) i_9_24 o_9 rfl v_10 rfl rfl rfl rfl rfl rfl ?_
  refine c_10_4_1 ?_
  show Ok _ 9 27 [some (vR (some 246)), some (vI x), some (vI 1), some (vI dp), some (vI 4), some (vI 0)] [vI 23] (M) _
  refine k_if_ne (t := 44) i_9_27 rfl (fun h27 => ?_) (fun h27 => absurd h27 (by decide))
  refine k_aload_n i_9_44 rfl ?_
  refine k_iload i_9_45 rfl ?_
  refine k_iload_n i_9_47 rfl ?_
  refine k_invS (n := 2) (av := [vI 4, vI 1]) (rest := [vR (some 246)]) (el := [some (vI 4), some (vI 1), none]) i_9_48 o_9 rfl v_10 rfl rfl rfl rfl rfl rfl ?_
  refine c_10_4_1 ?_
  show Ok _ 9 51 [some (vR (some 246)), some (vI x), some (vI 1), some (vI dp), some (vI 4), some (vI 0)] [vI 23, vR (some 246)] (M) _
  refine k_iload_n i_9_51 rfl ?_
  refine k_iload_n i_9_52 rfl ?_
  refine k_iconst i_9_53 (by decide) ?_
  refine k_iadd i_9_54 (by omega) ?_
  refine k_invV (n := 3) (o' := 1) (av := [vR (some 246), vI 23, vI x, vI (dp + 1)]) (rest := []) (el := [some (vR (some 246)), some (vI 23), some (vI x), some (vI (dp + 1))]) i_9_55 o_9 rfl v_11 rfl (s_246) rfl rfl rfl rfl rfl ?_
  refine g_23_4 (dp := dp + 1) hKo hT hq hv (by omega) hk hn ?_
  show Ok _ 9 58 [some (vR (some 246)), some (vI x), some (vI 1), some (vI dp), some (vI 4), some (vI 0)] [vI (x - (tS T x - 100))] (apL 246 247 3 M [23, 20, 13, 10]) _
  refine k_iret i_9_58 rfl ?_
  exact k

/-- ElbowQueue$Asks.asked -/
theorem a_5_1 {d : Nat} {M : Mem} {Q : Option Vv → Mem → Prop} {K : Kt} {T : Tt} {x dp n : Int} (hKo : KOk K 0) (hT : TOk K 0 T) (hq : AskH M K T n) (hv : Va K 0 x) (hd : 0 ≤ dp ∧ dp ≤ 9) (hk : kKd K x = 5) (hn : n + 5 ≤ 16) (k : Q (some (vI (x - (2 * (tS T x - 100))))) (apL 246 247 3 M [23, 20, 14, 13, 10])) : Ok (d + 6) 9 0 [some (vR (some 246)), some (vI x), some (vI 1), some (vI dp), none, none] [] M Q := by
  have hvb := va_b hKo hv
  have e1 : M 21 x = 5 := by rw [(hq.1.2.2 x hv).1]; exact hk
  refine k_aload_n i_9_0 rfl ?_
  refine k_getR (r := 20) i_9_1 o_9 rfl (by decide) (s_246) rfl ?_
  refine k_getR (r := 21) i_9_4 o_9 rfl (by decide) (s_20) rfl ?_
  refine k_iload_n i_9_7 rfl ?_
  refine k_iald i_9_8 (s_21) (by omega) ?_
  rw [e1]
  refine k_istore (ls' := [some (vR (some 246)), some (vI x), some (vI 1), some (vI dp), some (vI 5), none]) i_9_9 rfl ?_
  refine k_iconst i_9_11 (by decide) ?_
  refine k_istore (ls' := [some (vR (some 246)), some (vI x), some (vI 1), some (vI dp), some (vI 5), some (vI 0)]) i_9_12 rfl ?_
  refine k_iload i_9_14 rfl ?_
  refine k_bipush i_9_16 (by decide) ?_
  refine k_icmp_ge (t := 44) i_9_18 rfl (fun h18 => absurd h18 (by decide)) (fun h18 => ?_)
  refine k_iload i_9_21 rfl ?_
  refine k_iload_n i_9_23 rfl ?_
  refine k_invS (n := 2) (av := [vI 5, vI 1]) (rest := []) (el := [some (vI 5), some (vI 1), none]) i_9_24 o_9 rfl v_10 rfl rfl rfl rfl rfl rfl ?_
  refine c_10_5_1 ?_
  show Ok _ 9 27 [some (vR (some 246)), some (vI x), some (vI 1), some (vI dp), some (vI 5), some (vI 0)] [vI 0] (M) _
  refine k_if_ne (t := 44) i_9_27 rfl (fun h27 => absurd h27 (by decide)) (fun h27 => ?_)
  refine k_gets (j := 0) i_9_30 o_9 rfl (by decide) ?_
  refine k_iload i_9_33 rfl ?_
  refine k_ialdS (x := 4) i_9_35 (by decide) (by decide) rfl ?_
  refine k_istore (ls' := [some (vR (some 246)), some (vI x), some (vI 1), some (vI dp), some (vI 4), some (vI 0)]) i_9_36 rfl ?_
  refine k_iinc (ls' := [some (vR (some 246)), some (vI x), some (vI 1), some (vI dp), some (vI 4), some (vI 1)]) i_9_38 rfl (by omega) rfl ?_
  refine k_goto (t := 14) i_9_41 rfl ?_
  refine k_iload i_9_14 rfl ?_
  refine k_bipush i_9_16 (by decide) ?_
  refine k_icmp_ge (t := 44) i_9_18 rfl (fun h18 => absurd h18 (by decide)) (fun h18 => ?_)
  refine k_iload i_9_21 rfl ?_
  refine k_iload_n i_9_23 rfl ?_
  refine k_invS (n := 2) (av := [vI 4, vI 1]) (rest := []) (el := [some (vI 4), some (vI 1), none]) i_9_24 o_9 rfl v_10 rfl rfl rfl rfl rfl rfl ?_
  refine c_10_4_1 ?_
  show Ok _ 9 27 [some (vR (some 246)), some (vI x), some (vI 1), some (vI dp), some (vI 4), some (vI 1)] [vI 23] (M) _
  refine k_if_ne (t := 44) i_9_27 rfl (fun h27 => ?_) (fun h27 => absurd h27 (by decide))
  refine k_aload_n i_9_44 rfl ?_
  refine k_iload i_9_45 rfl ?_
  refine k_iload_n i_9_47 rfl ?_
  refine k_invS (n := 2) (av := [vI 4, vI 1]) (rest := [vR (some 246)]) (el := [some (vI 4), some (vI 1), none]) i_9_48 o_9 rfl v_10 rfl rfl rfl rfl rfl rfl ?_
  refine c_10_4_1 ?_
  show Ok _ 9 51 [some (vR (some 246)), some (vI x), some (vI 1), some (vI dp), some (vI 4), some (vI 1)] [vI 23, vR (some 246)] (M) _
  refine k_iload_n i_9_51 rfl ?_
  refine k_iload_n i_9_52 rfl ?_
  refine k_iconst i_9_53 (by decide) ?_
  refine k_iadd i_9_54 (by omega) ?_
  refine k_invV (n := 3) (o' := 1) (av := [vR (some 246), vI 23, vI x, vI (dp + 1)]) (rest := []) (el := [some (vR (some 246)), some (vI 23), some (vI x), some (vI (dp + 1))]) i_9_55 o_9 rfl v_11 rfl (s_246) rfl rfl rfl rfl rfl ?_
  refine g_23_5 (dp := dp + 1) hKo hT hq hv (by omega) hk hn ?_
  show Ok _ 9 58 [some (vR (some 246)), some (vI x), some (vI 1), some (vI dp), some (vI 4), some (vI 1)] [vI (x - (2 * (tS T x - 100)))] (apL 246 247 3 M [23, 20, 14, 13, 10]) _
  refine k_iret i_9_58 rfl ?_
  exact k

/-- ElbowQueue$Asks.given -/
theorem g_11_1 {d : Nat} {M : Mem} {Q : Option Vv → Mem → Prop} {K : Kt} {T : Tt} {x dp n : Int} (hKo : KOk K 0) (hT : TOk K 0 T) (hq : AskH M K T n) (hv : Va K 0 x) (hd : 0 ≤ dp ∧ dp ≤ 12) (hk : kKd K x = 1) (hn : n + 4 ≤ 16) (k : Q (some (vI (tS T x + (x + bel K T x)))) (apL 246 247 3 M [11, 10, 21, 20])) : Ok (d + 4) 11 0 [some (vR (some 246)), some (vI 11), some (vI x), some (vI dp)] [] M Q := by
  refine k_iload_n i_11_0 rfl ?_
  refine k_bipush i_11_1 (by decide) ?_
  refine k_icmp_le (t := 8) i_11_3 rfl (fun h3 => ?_) (fun h3 => absurd (by omega) h3)
  refine k_aload_n i_11_8 rfl ?_
  refine k_iload_n i_11_9 rfl ?_
  refine k_invV (n := 1) (o' := 1) (av := [vR (some 246), vI 11]) (rest := []) (el := [some (vR (some 246)), some (vI 11)]) i_11_10 o_11 rfl v_12 rfl (s_246) rfl rfl rfl rfl rfl ?_
  refine c_12 (by have := hq.2.2; omega) ?_
  show Ok _ 11 13 [some (vR (some 246)), some (vI 11), some (vI x), some (vI dp)] [] (ap 246 247 3 M 11) _
  have hq0 := hq.ap 11
  have sb := hT.2.2.2.1 x hv
  have bb : 0 ≤ bel K T x ∧ bel K T x ≤ 3 := by unfold bel; have := hT.2.2.1; split <;> omega
  have hv2 : (0 ≤ x ∧ x < kPe K) ∨ (16 ≤ x ∧ x < 16 + 0) := hv
  have g0 := hKo.1
  have hvb := va_b hKo hv
  have mi9 := hT.2.2.1
  have es : M 29 x = tS T x := (hq.2.1.2.2.2.2.2.2 x hv).2.2.1
  refine k_iload_n i_11_13 rfl ?_
  refine k_tab (off := 84) (t := 98) i_11_14 rfl rfl ?_
  refine k_aload_n i_11_98 rfl ?_
  refine k_bipush i_11_99 (by decide) ?_
  refine k_iload_n i_11_101 rfl ?_
  refine k_iload_n i_11_102 rfl ?_
  refine k_iconst i_11_103 (by decide) ?_
  refine k_iadd i_11_104 (by omega) ?_
  refine k_invV (n := 3) (o' := 1) (av := [vR (some 246), vI 10, vI x, vI (dp + 1)]) (rest := []) (el := [some (vR (some 246)), some (vI 10), some (vI x), some (vI (dp + 1))]) i_11_105 o_11 rfl v_11 rfl (s_246) rfl rfl rfl rfl rfl ?_
  refine g_10 (d := d + 2) (dp := dp + 1) hKo hT hq0 hv (by omega) (by first | omega | (simp only [List.length_cons, List.length_nil]; omega)) ?_
  show Ok _ 11 108 [some (vR (some 246)), some (vI 11), some (vI x), some (vI dp)] [vI (tS T x)] (apL 246 247 3 (ap 246 247 3 M 11) [10]) _
  have hq1 := hq0.apl [10]
  refine k_aload_n i_11_108 rfl ?_
  refine k_iload_n i_11_109 rfl ?_
  refine k_iconst i_11_110 (by decide) ?_
  refine k_iload_n i_11_111 rfl ?_
  refine k_iconst i_11_112 (by decide) ?_
  refine k_iadd i_11_113 (by omega) ?_
  refine k_invV (n := 3) (o' := 1) (av := [vR (some 246), vI x, vI 1, vI (dp + 1)]) (rest := [vI (tS T x)]) (el := [some (vR (some 246)), some (vI x), some (vI 1), some (vI (dp + 1)), none, none]) i_11_114 o_11 rfl v_9 rfl (s_246) rfl rfl rfl rfl rfl ?_
  refine a_1_1 (d := d + 0) (dp := dp + 1) hKo hT hq1 hv (by omega) hk (by first | omega | (simp only [List.length_cons, List.length_nil]; omega)) ?_
  show Ok _ 11 117 [some (vR (some 246)), some (vI 11), some (vI x), some (vI dp)] [vI (x + bel K T x), vI (tS T x)] (apL 246 247 3 (apL 246 247 3 (ap 246 247 3 M 11) [10]) [21, 20]) _
  refine k_iadd i_11_117 (by omega) ?_
  refine k_iret i_11_118 rfl ?_
  exact k

/-- ElbowQueue$Asks.given -/
theorem g_11_2 {d : Nat} {M : Mem} {Q : Option Vv → Mem → Prop} {K : Kt} {T : Tt} {x dp n : Int} (hKo : KOk K 0) (hT : TOk K 0 T) (hq : AskH M K T n) (hv : Va K 0 x) (hd : 0 ≤ dp ∧ dp ≤ 10) (hk : kKd K x = 2) (hn : n + 5 ≤ 16) (k : Q (some (vI (tS T x + (2 * (x + bel K T x))))) (apL 246 247 3 M [11, 10, 24, 21, 20])) : Ok (d + 5) 11 0 [some (vR (some 246)), some (vI 11), some (vI x), some (vI dp)] [] M Q := by
  refine k_iload_n i_11_0 rfl ?_
  refine k_bipush i_11_1 (by decide) ?_
  refine k_icmp_le (t := 8) i_11_3 rfl (fun h3 => ?_) (fun h3 => absurd (by omega) h3)
  refine k_aload_n i_11_8 rfl ?_
  refine k_iload_n i_11_9 rfl ?_
  refine k_invV (n := 1) (o' := 1) (av := [vR (some 246), vI 11]) (rest := []) (el := [some (vR (some 246)), some (vI 11)]) i_11_10 o_11 rfl v_12 rfl (s_246) rfl rfl rfl rfl rfl ?_
  refine c_12 (by have := hq.2.2; omega) ?_
  show Ok _ 11 13 [some (vR (some 246)), some (vI 11), some (vI x), some (vI dp)] [] (ap 246 247 3 M 11) _
  have hq0 := hq.ap 11
  have sb := hT.2.2.2.1 x hv
  have bb : 0 ≤ bel K T x ∧ bel K T x ≤ 3 := by unfold bel; have := hT.2.2.1; split <;> omega
  have hv2 : (0 ≤ x ∧ x < kPe K) ∨ (16 ≤ x ∧ x < 16 + 0) := hv
  have g0 := hKo.1
  have hvb := va_b hKo hv
  have mi9 := hT.2.2.1
  have es : M 29 x = tS T x := (hq.2.1.2.2.2.2.2.2 x hv).2.2.1
  refine k_iload_n i_11_13 rfl ?_
  refine k_tab (off := 84) (t := 98) i_11_14 rfl rfl ?_
  refine k_aload_n i_11_98 rfl ?_
  refine k_bipush i_11_99 (by decide) ?_
  refine k_iload_n i_11_101 rfl ?_
  refine k_iload_n i_11_102 rfl ?_
  refine k_iconst i_11_103 (by decide) ?_
  refine k_iadd i_11_104 (by omega) ?_
  refine k_invV (n := 3) (o' := 1) (av := [vR (some 246), vI 10, vI x, vI (dp + 1)]) (rest := []) (el := [some (vR (some 246)), some (vI 10), some (vI x), some (vI (dp + 1))]) i_11_105 o_11 rfl v_11 rfl (s_246) rfl rfl rfl rfl rfl ?_
  refine g_10 (d := d + 3) (dp := dp + 1) hKo hT hq0 hv (by omega) (by first | omega | (simp only [List.length_cons, List.length_nil]; omega)) ?_
  show Ok _ 11 108 [some (vR (some 246)), some (vI 11), some (vI x), some (vI dp)] [vI (tS T x)] (apL 246 247 3 (ap 246 247 3 M 11) [10]) _
  have hq1 := hq0.apl [10]
  refine k_aload_n i_11_108 rfl ?_
  refine k_iload_n i_11_109 rfl ?_
  refine k_iconst i_11_110 (by decide) ?_
  refine k_iload_n i_11_111 rfl ?_
  refine k_iconst i_11_112 (by decide) ?_
  refine k_iadd i_11_113 (by omega) ?_
  refine k_invV (n := 3) (o' := 1) (av := [vR (some 246), vI x, vI 1, vI (dp + 1)]) (rest := [vI (tS T x)]) (el := [some (vR (some 246)), some (vI x), some (vI 1), some (vI (dp + 1)), none, none]) i_11_114 o_11 rfl v_9 rfl (s_246) rfl rfl rfl rfl rfl ?_
  refine a_2_1 (d := d + 0) (dp := dp + 1) hKo hT hq1 hv (by omega) hk (by first | omega | (simp only [List.length_cons, List.length_nil]; omega)) ?_
  show Ok _ 11 117 [some (vR (some 246)), some (vI 11), some (vI x), some (vI dp)] [vI (2 * (x + bel K T x)), vI (tS T x)] (apL 246 247 3 (apL 246 247 3 (ap 246 247 3 M 11) [10]) [24, 21, 20]) _
  refine k_iadd i_11_117 (by omega) ?_
  refine k_iret i_11_118 rfl ?_
  exact k

/-- ElbowQueue$Asks.given -/
theorem g_11_3 {d : Nat} {M : Mem} {Q : Option Vv → Mem → Prop} {K : Kt} {T : Tt} {x dp n : Int} (hKo : KOk K 0) (hT : TOk K 0 T) (hq : AskH M K T n) (hv : Va K 0 x) (hd : 0 ≤ dp ∧ dp ≤ 10) (hk : kKd K x = 3) (hn : n + 5 ≤ 16) (k : Q (some (vI (tS T x + (x + bel K T x - 1000)))) (apL 246 247 3 M [11, 10, 22, 21, 20])) : Ok (d + 5) 11 0 [some (vR (some 246)), some (vI 11), some (vI x), some (vI dp)] [] M Q := by
  refine k_iload_n i_11_0 rfl ?_
  refine k_bipush i_11_1 (by decide) ?_
  refine k_icmp_le (t := 8) i_11_3 rfl (fun h3 => ?_) (fun h3 => absurd (by omega) h3)
  refine k_aload_n i_11_8 rfl ?_
  refine k_iload_n i_11_9 rfl ?_
  refine k_invV (n := 1) (o' := 1) (av := [vR (some 246), vI 11]) (rest := []) (el := [some (vR (some 246)), some (vI 11)]) i_11_10 o_11 rfl v_12 rfl (s_246) rfl rfl rfl rfl rfl ?_
  refine c_12 (by have := hq.2.2; omega) ?_
  show Ok _ 11 13 [some (vR (some 246)), some (vI 11), some (vI x), some (vI dp)] [] (ap 246 247 3 M 11) _
  have hq0 := hq.ap 11
  have sb := hT.2.2.2.1 x hv
  have bb : 0 ≤ bel K T x ∧ bel K T x ≤ 3 := by unfold bel; have := hT.2.2.1; split <;> omega
  have hv2 : (0 ≤ x ∧ x < kPe K) ∨ (16 ≤ x ∧ x < 16 + 0) := hv
  have g0 := hKo.1
  have hvb := va_b hKo hv
  have mi9 := hT.2.2.1
  have es : M 29 x = tS T x := (hq.2.1.2.2.2.2.2.2 x hv).2.2.1
  refine k_iload_n i_11_13 rfl ?_
  refine k_tab (off := 84) (t := 98) i_11_14 rfl rfl ?_
  refine k_aload_n i_11_98 rfl ?_
  refine k_bipush i_11_99 (by decide) ?_
  refine k_iload_n i_11_101 rfl ?_
  refine k_iload_n i_11_102 rfl ?_
  refine k_iconst i_11_103 (by decide) ?_
  refine k_iadd i_11_104 (by omega) ?_
  refine k_invV (n := 3) (o' := 1) (av := [vR (some 246), vI 10, vI x, vI (dp + 1)]) (rest := []) (el := [some (vR (some 246)), some (vI 10), some (vI x), some (vI (dp + 1))]) i_11_105 o_11 rfl v_11 rfl (s_246) rfl rfl rfl rfl rfl ?_
  refine g_10 (d := d + 3) (dp := dp + 1) hKo hT hq0 hv (by omega) (by first | omega | (simp only [List.length_cons, List.length_nil]; omega)) ?_
  show Ok _ 11 108 [some (vR (some 246)), some (vI 11), some (vI x), some (vI dp)] [vI (tS T x)] (apL 246 247 3 (ap 246 247 3 M 11) [10]) _
  have hq1 := hq0.apl [10]
  refine k_aload_n i_11_108 rfl ?_
  refine k_iload_n i_11_109 rfl ?_
  refine k_iconst i_11_110 (by decide) ?_
  refine k_iload_n i_11_111 rfl ?_
  refine k_iconst i_11_112 (by decide) ?_
  refine k_iadd i_11_113 (by omega) ?_
  refine k_invV (n := 3) (o' := 1) (av := [vR (some 246), vI x, vI 1, vI (dp + 1)]) (rest := [vI (tS T x)]) (el := [some (vR (some 246)), some (vI x), some (vI 1), some (vI (dp + 1)), none, none]) i_11_114 o_11 rfl v_9 rfl (s_246) rfl rfl rfl rfl rfl ?_
  refine a_3_1 (d := d + 0) (dp := dp + 1) hKo hT hq1 hv (by omega) hk (by first | omega | (simp only [List.length_cons, List.length_nil]; omega)) ?_
  show Ok _ 11 117 [some (vR (some 246)), some (vI 11), some (vI x), some (vI dp)] [vI (x + bel K T x - 1000), vI (tS T x)] (apL 246 247 3 (apL 246 247 3 (ap 246 247 3 M 11) [10]) [22, 21, 20]) _
  refine k_iadd i_11_117 (by omega) ?_
  refine k_iret i_11_118 rfl ?_
  exact k

/-- ElbowQueue$Asks.given -/
theorem g_12_2 {d : Nat} {M : Mem} {Q : Option Vv → Mem → Prop} {K : Kt} {T : Tt} {x dp n : Int} (hKo : KOk K 0) (hT : TOk K 0 T) (hq : AskH M K T n) (hv : Va K 0 x) (hd : 0 ≤ dp ∧ dp ≤ 8) (hk : kKd K x = 2) (hn : n + 6 ≤ 16) (k : Q (some (vI (-(tS T x + (2 * (x + bel K T x)))))) (apL 246 247 3 M [12, 11, 10, 24, 21, 20])) : Ok (d + 6) 11 0 [some (vR (some 246)), some (vI 12), some (vI x), some (vI dp)] [] M Q := by
  refine k_iload_n i_11_0 rfl ?_
  refine k_bipush i_11_1 (by decide) ?_
  refine k_icmp_le (t := 8) i_11_3 rfl (fun h3 => ?_) (fun h3 => absurd (by omega) h3)
  refine k_aload_n i_11_8 rfl ?_
  refine k_iload_n i_11_9 rfl ?_
  refine k_invV (n := 1) (o' := 1) (av := [vR (some 246), vI 12]) (rest := []) (el := [some (vR (some 246)), some (vI 12)]) i_11_10 o_11 rfl v_12 rfl (s_246) rfl rfl rfl rfl rfl ?_
  refine c_12 (by have := hq.2.2; omega) ?_
  show Ok _ 11 13 [some (vR (some 246)), some (vI 12), some (vI x), some (vI dp)] [] (ap 246 247 3 M 12) _
  have hq0 := hq.ap 12
  have sb := hT.2.2.2.1 x hv
  have bb : 0 ≤ bel K T x ∧ bel K T x ≤ 3 := by unfold bel; have := hT.2.2.1; split <;> omega
  have hv2 : (0 ≤ x ∧ x < kPe K) ∨ (16 ≤ x ∧ x < 16 + 0) := hv
  have g0 := hKo.1
  have hvb := va_b hKo hv
  have mi9 := hT.2.2.1
  have es : M 29 x = tS T x := (hq.2.1.2.2.2.2.2.2 x hv).2.2.1
  refine k_iload_n i_11_13 rfl ?_
  refine k_tab (off := 105) (t := 119) i_11_14 rfl rfl ?_
  refine k_aload_n i_11_119 rfl ?_
  refine k_bipush i_11_120 (by decide) ?_
  refine k_iload_n i_11_122 rfl ?_
  refine k_iload_n i_11_123 rfl ?_
  refine k_iconst i_11_124 (by decide) ?_
  refine k_iadd i_11_125 (by omega) ?_
  refine k_invV (n := 3) (o' := 1) (av := [vR (some 246), vI 11, vI x, vI (dp + 1)]) (rest := []) (el := [some (vR (some 246)), some (vI 11), some (vI x), some (vI (dp + 1))]) i_11_126 o_11 rfl v_11 rfl (s_246) rfl rfl rfl rfl rfl ?_
  refine g_11_2 (d := d + 0) (dp := dp + 1) hKo hT hq0 hv (by omega) hk (by first | omega | (simp only [List.length_cons, List.length_nil]; omega)) ?_
  show Ok _ 11 129 [some (vR (some 246)), some (vI 12), some (vI x), some (vI dp)] [vI (tS T x + (2 * (x + bel K T x)))] (apL 246 247 3 (ap 246 247 3 M 12) [11, 10, 24, 21, 20]) _
  refine k_ineg i_11_129 (by omega) ?_
  refine k_iret i_11_130 rfl ?_
  exact k

/-- ElbowQueue$Asks.asked -/
theorem a_1_0 {d : Nat} {M : Mem} {Q : Option Vv → Mem → Prop} {K : Kt} {T : Tt} {x dp n : Int} (hKo : KOk K 0) (hT : TOk K 0 T) (hq : AskH M K T n) (hv : Va K 0 x) (hd : 0 ≤ dp ∧ dp ≤ 11) (hk : kKd K x = 1) (hn : n + 4 ≤ 16) (k : Q (some (vI (tS T x + (x + bel K T x)))) (apL 246 247 3 M [11, 10, 21, 20])) : Ok (d + 5) 9 0 [some (vR (some 246)), some (vI x), some (vI 0), some (vI dp), none, none] [] M Q := by
  have hvb := va_b hKo hv
  have e1 : M 21 x = 1 := by rw [(hq.1.2.2 x hv).1]; exact hk
  refine k_aload_n i_9_0 rfl ?_
  refine k_getR (r := 20) i_9_1 o_9 rfl (by decide) (s_246) rfl ?_
  refine k_getR (r := 21) i_9_4 o_9 rfl (by decide) (s_20) rfl ?_
  refine k_iload_n i_9_7 rfl ?_
  refine k_iald i_9_8 (s_21) (by omega) ?_
  rw [e1]
  refine k_istore (ls' := [some (vR (some 246)), some (vI x), some (vI 0), some (vI dp), some (vI 1), none]) i_9_9 rfl ?_
  refine k_iconst i_9_11 (by decide) ?_
  refine k_istore (ls' := [some (vR (some 246)), some (vI x), some (vI 0), some (vI dp), some (vI 1), some (vI 0)]) i_9_12 rfl ?_
  refine k_iload i_9_14 rfl ?_
  refine k_bipush i_9_16 (by decide) ?_
  refine k_icmp_ge (t := 44) i_9_18 rfl (fun h18 => absurd h18 (by decide)) (fun h18 => ?_)
  refine k_iload i_9_21 rfl ?_
  refine k_iload_n i_9_23 rfl ?_
  refine k_invS (n := 2) (av := [vI 1, vI 0]) (rest := []) (el := [some (vI 1), some (vI 0), none]) i_9_24 o_9 rfl v_10 rfl rfl rfl rfl rfl rfl ?_
  refine c_10_1_0 ?_
  show Ok _ 9 27 [some (vR (some 246)), some (vI x), some (vI 0), some (vI dp), some (vI 1), some (vI 0)] [vI 11] (M) _
  refine k_if_ne (t := 44) i_9_27 rfl (fun h27 => ?_) (fun h27 => absurd h27 (by decide))
  refine k_aload_n i_9_44 rfl ?_
  refine k_iload i_9_45 rfl ?_
  refine k_iload_n i_9_47 rfl ?_
  refine k_invS (n := 2) (av := [vI 1, vI 0]) (rest := [vR (some 246)]) (el := [some (vI 1), some (vI 0), none]) i_9_48 o_9 rfl v_10 rfl rfl rfl rfl rfl rfl ?_
  refine c_10_1_0 ?_
  show Ok _ 9 51 [some (vR (some 246)), some (vI x), some (vI 0), some (vI dp), some (vI 1), some (vI 0)] [vI 11, vR (some 246)] (M) _
  refine k_iload_n i_9_51 rfl ?_
  refine k_iload_n i_9_52 rfl ?_
  refine k_iconst i_9_53 (by decide) ?_
  refine k_iadd i_9_54 (by omega) ?_
  refine k_invV (n := 3) (o' := 1) (av := [vR (some 246), vI 11, vI x, vI (dp + 1)]) (rest := []) (el := [some (vR (some 246)), some (vI 11), some (vI x), some (vI (dp + 1))]) i_9_55 o_9 rfl v_11 rfl (s_246) rfl rfl rfl rfl rfl ?_
  refine g_11_1 (dp := dp + 1) hKo hT hq hv (by omega) hk hn ?_
  show Ok _ 9 58 [some (vR (some 246)), some (vI x), some (vI 0), some (vI dp), some (vI 1), some (vI 0)] [vI (tS T x + (x + bel K T x))] (apL 246 247 3 M [11, 10, 21, 20]) _
  refine k_iret i_9_58 rfl ?_
  exact k

/-- ElbowQueue$Asks.asked -/
theorem a_2_0 {d : Nat} {M : Mem} {Q : Option Vv → Mem → Prop} {K : Kt} {T : Tt} {x dp n : Int} (hKo : KOk K 0) (hT : TOk K 0 T) (hq : AskH M K T n) (hv : Va K 0 x) (hd : 0 ≤ dp ∧ dp ≤ 7) (hk : kKd K x = 2) (hn : n + 6 ≤ 16) (k : Q (some (vI (-(tS T x + (2 * (x + bel K T x)))))) (apL 246 247 3 M [12, 11, 10, 24, 21, 20])) : Ok (d + 7) 9 0 [some (vR (some 246)), some (vI x), some (vI 0), some (vI dp), none, none] [] M Q := by
  have hvb := va_b hKo hv
  have e1 : M 21 x = 2 := by rw [(hq.1.2.2 x hv).1]; exact hk
  refine k_aload_n i_9_0 rfl ?_
  refine k_getR (r := 20) i_9_1 o_9 rfl (by decide) (s_246) rfl ?_
  refine k_getR (r := 21) i_9_4 o_9 rfl (by decide) (s_20) rfl ?_
  refine k_iload_n i_9_7 rfl ?_
  refine k_iald i_9_8 (s_21) (by omega) ?_
  rw [e1]
  refine k_istore (ls' := [some (vR (some 246)), some (vI x), some (vI 0), some (vI dp), some (vI 2), none]) i_9_9 rfl ?_
  refine k_iconst i_9_11 (by decide) ?_
  refine k_istore (ls' := [some (vR (some 246)), some (vI x), some (vI 0), some (vI dp), some (vI 2), some (vI 0)]) i_9_12 rfl ?_
  refine k_iload i_9_14 rfl ?_
  refine k_bipush i_9_16 (by decide) ?_
  refine k_icmp_ge (t := 44) i_9_18 rfl (fun h18 => absurd h18 (by decide)) (fun h18 => ?_)
  refine k_iload i_9_21 rfl ?_
  refine k_iload_n i_9_23 rfl ?_
  refine k_invS (n := 2) (av := [vI 2, vI 0]) (rest := []) (el := [some (vI 2), some (vI 0), none]) i_9_24 o_9 rfl v_10 rfl rfl rfl rfl rfl rfl ?_
  refine c_10_2_0 ?_
  show Ok _ 9 27 [some (vR (some 246)), some (vI x), some (vI 0), some (vI dp), some (vI 2), some (vI 0)] [vI 12] (M) _
  refine k_if_ne (t := 44) i_9_27 rfl (fun h27 => ?_) (fun h27 => absurd h27 (by decide))
  refine k_aload_n i_9_44 rfl ?_
  refine k_iload i_9_45 rfl ?_
  refine k_iload_n i_9_47 rfl ?_
  refine k_invS (n := 2) (av := [vI 2, vI 0]) (rest := [vR (some 246)]) (el := [some (vI 2), some (vI 0), none]) i_9_48 o_9 rfl v_10 rfl rfl rfl rfl rfl rfl ?_
  refine c_10_2_0 ?_
  show Ok _ 9 51 [some (vR (some 246)), some (vI x), some (vI 0), some (vI dp), some (vI 2), some (vI 0)] [vI 12, vR (some 246)] (M) _
  refine k_iload_n i_9_51 rfl ?_
  refine k_iload_n i_9_52 rfl ?_
  refine k_iconst i_9_53 (by decide) ?_
  refine k_iadd i_9_54 (by omega) ?_
  refine k_invV (n := 3) (o' := 1) (av := [vR (some 246), vI 12, vI x, vI (dp + 1)]) (rest := []) (el := [some (vR (some 246)), some (vI 12), some (vI x), some (vI (dp + 1))]) i_9_55 o_9 rfl v_11 rfl (s_246) rfl rfl rfl rfl rfl ?_
  refine g_12_2 (dp := dp + 1) hKo hT hq hv (by omega) hk hn ?_
  show Ok _ 9 58 [some (vR (some 246)), some (vI x), some (vI 0), some (vI dp), some (vI 2), some (vI 0)] [vI (-(tS T x + (2 * (x + bel K T x))))] (apL 246 247 3 M [12, 11, 10, 24, 21, 20]) _
  refine k_iret i_9_58 rfl ?_
  exact k

/-- ElbowQueue$Asks.asked -/
theorem a_3_0 {d : Nat} {M : Mem} {Q : Option Vv → Mem → Prop} {K : Kt} {T : Tt} {x dp n : Int} (hKo : KOk K 0) (hT : TOk K 0 T) (hq : AskH M K T n) (hv : Va K 0 x) (hd : 0 ≤ dp ∧ dp ≤ 9) (hk : kKd K x = 3) (hn : n + 5 ≤ 16) (k : Q (some (vI (tS T x + (x + bel K T x - 1000)))) (apL 246 247 3 M [11, 10, 22, 21, 20])) : Ok (d + 6) 9 0 [some (vR (some 246)), some (vI x), some (vI 0), some (vI dp), none, none] [] M Q := by
  have hvb := va_b hKo hv
  have e1 : M 21 x = 3 := by rw [(hq.1.2.2 x hv).1]; exact hk
  refine k_aload_n i_9_0 rfl ?_
  refine k_getR (r := 20) i_9_1 o_9 rfl (by decide) (s_246) rfl ?_
  refine k_getR (r := 21) i_9_4 o_9 rfl (by decide) (s_20) rfl ?_
  refine k_iload_n i_9_7 rfl ?_
  refine k_iald i_9_8 (s_21) (by omega) ?_
  rw [e1]
  refine k_istore (ls' := [some (vR (some 246)), some (vI x), some (vI 0), some (vI dp), some (vI 3), none]) i_9_9 rfl ?_
  refine k_iconst i_9_11 (by decide) ?_
  refine k_istore (ls' := [some (vR (some 246)), some (vI x), some (vI 0), some (vI dp), some (vI 3), some (vI 0)]) i_9_12 rfl ?_
  refine k_iload i_9_14 rfl ?_
  refine k_bipush i_9_16 (by decide) ?_
  refine k_icmp_ge (t := 44) i_9_18 rfl (fun h18 => absurd h18 (by decide)) (fun h18 => ?_)
  refine k_iload i_9_21 rfl ?_
  refine k_iload_n i_9_23 rfl ?_
  refine k_invS (n := 2) (av := [vI 3, vI 0]) (rest := []) (el := [some (vI 3), some (vI 0), none]) i_9_24 o_9 rfl v_10 rfl rfl rfl rfl rfl rfl ?_
  refine c_10_3_0 ?_
  show Ok _ 9 27 [some (vR (some 246)), some (vI x), some (vI 0), some (vI dp), some (vI 3), some (vI 0)] [vI 0] (M) _
  refine k_if_ne (t := 44) i_9_27 rfl (fun h27 => absurd h27 (by decide)) (fun h27 => ?_)
  refine k_gets (j := 0) i_9_30 o_9 rfl (by decide) ?_
  refine k_iload i_9_33 rfl ?_
  refine k_ialdS (x := 1) i_9_35 (by decide) (by decide) rfl ?_
  refine k_istore (ls' := [some (vR (some 246)), some (vI x), some (vI 0), some (vI dp), some (vI 1), some (vI 0)]) i_9_36 rfl ?_
  refine k_iinc (ls' := [some (vR (some 246)), some (vI x), some (vI 0), some (vI dp), some (vI 1), some (vI 1)]) i_9_38 rfl (by omega) rfl ?_
  refine k_goto (t := 14) i_9_41 rfl ?_
  refine k_iload i_9_14 rfl ?_
  refine k_bipush i_9_16 (by decide) ?_
  refine k_icmp_ge (t := 44) i_9_18 rfl (fun h18 => absurd h18 (by decide)) (fun h18 => ?_)
  refine k_iload i_9_21 rfl ?_
  refine k_iload_n i_9_23 rfl ?_
  refine k_invS (n := 2) (av := [vI 1, vI 0]) (rest := []) (el := [some (vI 1), some (vI 0), none]) i_9_24 o_9 rfl v_10 rfl rfl rfl rfl rfl rfl ?_
  refine c_10_1_0 ?_
  show Ok _ 9 27 [some (vR (some 246)), some (vI x), some (vI 0), some (vI dp), some (vI 1), some (vI 1)] [vI 11] (M) _
  refine k_if_ne (t := 44) i_9_27 rfl (fun h27 => ?_) (fun h27 => absurd h27 (by decide))
  refine k_aload_n i_9_44 rfl ?_
  refine k_iload i_9_45 rfl ?_
  refine k_iload_n i_9_47 rfl ?_
  refine k_invS (n := 2) (av := [vI 1, vI 0]) (rest := [vR (some 246)]) (el := [some (vI 1), some (vI 0), none]) i_9_48 o_9 rfl v_10 rfl rfl rfl rfl rfl rfl ?_
  refine c_10_1_0 ?_
  show Ok _ 9 51 [some (vR (some 246)), some (vI x), some (vI 0), some (vI dp), some (vI 1), some (vI 1)] [vI 11, vR (some 246)] (M) _
  refine k_iload_n i_9_51 rfl ?_
  refine k_iload_n i_9_52 rfl ?_
  refine k_iconst i_9_53 (by decide) ?_
  refine k_iadd i_9_54 (by omega) ?_
  refine k_invV (n := 3) (o' := 1) (av := [vR (some 246), vI 11, vI x, vI (dp + 1)]) (rest := []) (el := [some (vR (some 246)), some (vI 11), some (vI x), some (vI (dp + 1))]) i_9_55 o_9 rfl v_11 rfl (s_246) rfl rfl rfl rfl rfl ?_
  refine g_11_3 (dp := dp + 1) hKo hT hq hv (by omega) hk hn ?_
  show Ok _ 9 58 [some (vR (some 246)), some (vI x), some (vI 0), some (vI dp), some (vI 1), some (vI 1)] [vI (tS T x + (x + bel K T x - 1000))] (apL 246 247 3 M [11, 10, 22, 21, 20]) _
  refine k_iret i_9_58 rfl ?_
  exact k
