/-! the reference's acts: the latest first -/
def ActsR (M : Mem) (K : Kt) (L : List Tt) : Prop := M 273 4 = L.length ∧ L.length ≤ 24 ∧ ∀ (i : Nat) (U : Tt), L[i]? = some U → RepR (fun _ j => M 277 (145 * ((L.length : Int) - 1 - i) + j)) K 0 U
def OutK (M M' : Mem) : Prop := ∀ (b : Nat) (j : Int), b ≠ 277 → ¬ (b = 273 ∧ j = 4) → M' b j = M b j
theorem RepR.cg {M M' : Mem} {K : Kt} {T : Tt} (hK : KOk K 0) (hl : ((tQ T).length : Int) ≤ 16) (h : RepR M K 0 T) (he : ∀ j : Int, 0 ≤ j → j < 145 → M' 274 j = M 274 j) : RepR M' K 0 T := by
  have g := hK.1
  obtain ⟨r1, r2, r3, r4, r5, rq, rp⟩ := id h
  refine ⟨by rw [he _ (by omega) (by omega)]; exact r1, by rw [he _ (by omega) (by omega)]; exact r2, by rw [he _ (by omega) (by omega)]; exact r3, by rw [he _ (by omega) (by omega)]; exact r4, by rw [he _ (by omega) (by omega)]; exact r5, fun i p hi => ?_, fun p hp => ?_⟩
  · have hi2 := (List.getElem?_eq_some_iff.mp hi).1
    rw [he _ (by omega) (by omega)]; exact rq i p hi
  · have hp2 : (0 ≤ p ∧ p < kPe K) ∨ (16 ≤ p ∧ p < 16 + 0) := hp
    rw [he _ (by omega) (by omega), he _ (by omega) (by omega), he _ (by omega) (by omega), he _ (by omega) (by omega)]; exact rp p hp
theorem ActsR.fr {M M' : Mem} {K : Kt} {L : List Tt} (h : ActsR M K L) (h1 : M' 273 4 = M 273 4) (h2 : ∀ j, M' 277 j = M 277 j) : ActsR M' K L := by
  obtain ⟨a1, a2, a3⟩ := h
  refine ⟨by omega, a2, fun i U hi => ?_⟩
  exact (a3 i U hi).off (fun j => h2 _)
def sh5 (M : Mem) (n : Int) : Mem := fun c j => if c = 277 ∧ 0 ≤ j ∧ j < n then M 277 (j + 145) else M c j
theorem sh5_0 (M : Mem) : sh5 M 0 = M := by
  funext c j
  unfold sh5
  rw [if_neg (by omega)]
theorem sh5_s {M : Mem} {n : Int} (h : 0 ≤ n) : mu (sh5 M n) 277 n (sh5 M n 277 (n + 145)) = sh5 M (n + 1) := by
  have e0 : sh5 M n 277 (n + 145) = M 277 (n + 145) := if_neg (by omega)
  rw [e0]
  funext c j
  unfold mu sh5
  by_cases e : c = 277 ∧ j = n
  · rw [if_pos e, if_pos (by omega), e.2]
  · rw [if_neg e]
    by_cases e2 : c = 277 ∧ 0 ≤ j ∧ j < n
    · rw [if_pos e2, if_pos (by omega)]
    · rw [if_neg e2, if_neg (by omega)]
def cpo (M : Mem) (o n : Int) : Mem := fun c j => if c = 277 ∧ o ≤ j ∧ j < o + n then M 274 (j - o) else M c j
theorem cpo_0 (M : Mem) (o : Int) : cpo M o 0 = M := by
  funext c j
  unfold cpo
  rw [if_neg (by omega)]
theorem cpo_s {M : Mem} {o n : Int} (h : 0 ≤ n) : mu (cpo M o n) 277 (o + n) (cpo M o n 274 n) = cpo M o (n + 1) := by
  have e0 : cpo M o n 274 n = M 274 n := if_neg (by omega)
  rw [e0]
  funext c j
  unfold mu cpo
  by_cases e : c = 277 ∧ j = o + n
  · rw [if_pos e, if_pos (by omega), e.2, show o + n - o = n by omega]
  · rw [if_neg e]
    by_cases e2 : c = 277 ∧ o ≤ j ∧ j < o + n
    · rw [if_pos e2, if_pos (by omega)]
    · rw [if_neg e2, if_neg (by omega)]

set_option maxRecDepth 100000 in
theorem l_154b {d : Nat} {M : Mem} {Q : Option Vv → Mem → Prop}  (h4 : 0 ≤ M 273 4 ∧ M 273 4 ≤ 23) (kk : Q none (mu (cpo M (145 * M 273 4) 145) 273 4 (M 273 4 + 1))) : ∀ (f : Nat) (i : Int), (0 ≤ i ∧ i ≤ 145) → (145 - i).toNat < f → Ok d 154 48 [some (vR (some 273)), some (vI i)] [] (cpo M (145 * M 273 4) i) Q := by
  intro f
  induction f with
  | zero => intro i hi hf; exact absurd hf (Nat.not_lt_zero _)
  | succ f ih =>
    intro i hi hf
    have e4 : cpo M (145 * M 273 4) i 273 4 = M 273 4 := if_neg (by omega)
    refine k_iload_n i_154_48 rfl ?_
    refine k_sipush i_154_49 (by decide) ?_
    refine k_icmp_ge (t := 82) i_154_52 rfl (fun h52 => ?_) (fun h52 => ?_)
    · refine k_aload_n i_154_82 rfl ?_
      refine k_dupR i_154_83 ?_
      refine k_getI (kz := 4) i_154_84 o_154 rfl (by decide) (s_273) rfl ?_
      rw [e4]
      refine k_iconst i_154_87 (by decide) ?_
      refine k_iadd i_154_88 (by omega) ?_
      refine k_putI (kz := 4) i_154_89 o_154 rfl (by decide) (s_273) rfl ?_
      refine k_vret i_154_92 rfl ?_
      obtain rfl : i = 145 := by omega
      exact kk
    · refine k_aload_n i_154_55 rfl ?_
      refine k_getR (r := 277) i_154_56 o_154 rfl (by decide) (s_273) rfl ?_
      refine k_sipush i_154_59 (by decide) ?_
      refine k_aload_n i_154_62 rfl ?_
      refine k_getI (kz := 4) i_154_63 o_154 rfl (by decide) (s_273) rfl ?_
      rw [e4]
      refine k_imul i_154_66 (by omega) ?_
      refine k_iload_n i_154_67 rfl ?_
      refine k_iadd i_154_68 (by omega) ?_
      refine k_aload_n i_154_69 rfl ?_
      refine k_getR (r := 274) i_154_70 o_154 rfl (by decide) (s_273) rfl ?_
      refine k_iload_n i_154_73 rfl ?_
      refine k_iald i_154_74 (s_274) (by omega) ?_
      refine k_iast i_154_75 (s_277) (by omega) ?_
      refine k_iinc (ls' := [some (vR (some 273)), some (vI (i + 1))]) i_154_76 rfl (by omega) rfl ?_
      refine k_goto (t := 48) i_154_79 rfl ?_
      rw [cpo_s (by omega)]
      exact ih (i + 1) (by omega) (by omega)

set_option maxRecDepth 100000 in
theorem l_154a {d : Nat} {M : Mem} {Q : Option Vv → Mem → Prop}  (h4 : M 273 4 = 24) (kk : Ok d 154 46 [some (vR (some 273)), some (vI 3335)] [] (mu (sh5 M 3335) 273 4 23) Q) : ∀ (f : Nat) (i : Int), (0 ≤ i ∧ i ≤ 3335) → (3335 - i).toNat < f → Ok d 154 11 [some (vR (some 273)), some (vI i)] [] (sh5 M i) Q := by
  intro f
  induction f with
  | zero => intro i hi hf; exact absurd hf (Nat.not_lt_zero _)
  | succ f ih =>
    intro i hi hf
    refine k_iload_n i_154_11 rfl ?_
    refine k_sipush i_154_12 (by decide) ?_
    refine k_icmp_ge (t := 40) i_154_15 rfl (fun h15 => ?_) (fun h15 => ?_)
    · refine k_aload_n i_154_40 rfl ?_
      refine k_bipush i_154_41 (by decide) ?_
      refine k_putI (kz := 4) i_154_43 o_154 rfl (by decide) (s_273) rfl ?_
      obtain rfl : i = 3335 := by omega
      exact kk
    · refine k_aload_n i_154_18 rfl ?_
      refine k_getR (r := 277) i_154_19 o_154 rfl (by decide) (s_273) rfl ?_
      refine k_iload_n i_154_22 rfl ?_
      refine k_aload_n i_154_23 rfl ?_
      refine k_getR (r := 277) i_154_24 o_154 rfl (by decide) (s_273) rfl ?_
      refine k_iload_n i_154_27 rfl ?_
      refine k_sipush i_154_28 (by decide) ?_
      refine k_iadd i_154_31 (by omega) ?_
      refine k_iald i_154_32 (s_277) (by omega) ?_
      refine k_iast i_154_33 (s_277) (by omega) ?_
      refine k_iinc (ls' := [some (vR (some 273)), some (vI (i + 1))]) i_154_34 rfl (by omega) rfl ?_
      refine k_goto (t := 11) i_154_37 rfl ?_
      rw [sh5_s (by omega)]
      exact ih (i + 1) (by omega) (by omega)

set_option maxRecDepth 100000 in
/-- ElbowQueueModel.keepAct -/
theorem c_154 {d : Nat} {M : Mem} {Q : Option Vv → Mem → Prop} {K : Kt} {T : Tt} {L : List Tt} (hKo : KOk K 0) (hR : RepR M K 0 T) (hl : ((tQ T).length : Int) ≤ 16) (hL : ∀ U ∈ L, ((tQ U).length : Int) ≤ 16) (hA : ActsR M K L) (kk : ∀ M', ActsR M' K (keepL L T) → OutK M M' → Q none M') : Ok d 154 0 [some (vR (some 273)), none] [] M Q := by
  obtain ⟨a1, a2, a3⟩ := id hA
  have g := hKo.1
  have fin : ∀ M1 : Mem, (∀ j, M1 274 j = M 274 j) → OutK M M1 → 0 ≤ M1 273 4 → M1 273 4 ≤ 23 → M1 273 4 + 1 = ((keepL L T).length : Int) → (∀ (i : Nat) (U : Tt), (keepL L T)[i + 1]? = some U → RepR (fun _ j => M1 277 (145 * (M1 273 4 - 1 - i) + j)) K 0 U ∧ ((tQ U).length : Int) ≤ 16) → Q none (mu (cpo M1 (145 * M1 273 4) 145) 273 4 (M1 273 4 + 1)) := by
    intro M1 h1 h2 h3 h4 h5 h6
    refine kk _ ⟨?_, ?_, ?_⟩ ?_
    · rw [mu_s]; exact h5
    · unfold keepL; rw [List.length_take]; omega
    · intro i U hi
      have hi2 := (List.getElem?_eq_some_iff.mp hi).1
      rw [← h5]
      cases i with
      | zero =>
        obtain rfl : T = U := by
          unfold keepL at hi
          rw [List.getElem?_take_of_lt (by decide)] at hi
          simpa using hi
        refine RepR.cg hKo hl hR (fun j q0 q1 => ?_)
        show mu (cpo M1 (145 * M1 273 4) 145) 273 4 (M1 273 4 + 1) 277 (145 * (M1 273 4 + 1 - 1 - ((0 : Nat) : Int)) + j) = _
        rw [mu_ne (by decide)]
        unfold cpo
        rw [if_pos (by omega), ← h1]
        congr 1
        omega
      | succ i =>
        obtain ⟨q1, q2⟩ := h6 i U hi
        refine RepR.cg hKo q2 q1 (fun j p0 p1 => ?_)
        show mu (cpo M1 (145 * M1 273 4) 145) 273 4 (M1 273 4 + 1) 277 (145 * (M1 273 4 + 1 - 1 - ((i + 1 : Nat) : Int)) + j) = M1 277 _
        rw [mu_ne (by decide)]
        unfold cpo
        rw [if_neg (by omega)]
        congr 1
        omega
    · intro b j p0 p1
      have e : ¬ (b = 273 ∧ j = 4) := p1
      show (if b = 273 ∧ j = 4 then _ else _) = _
      rw [if_neg e]
      unfold cpo
      rw [if_neg (by omega)]
      exact h2 b j p0 p1
  have fin2 : ∀ (M1 : Mem) (x1 : Option Vv), (∀ j, M1 274 j = M 274 j) → OutK M M1 → 0 ≤ M1 273 4 → M1 273 4 ≤ 23 → M1 273 4 + 1 = ((keepL L T).length : Int) → (∀ (i : Nat) (U : Tt), (keepL L T)[i + 1]? = some U → RepR (fun _ j => M1 277 (145 * (M1 273 4 - 1 - i) + j)) K 0 U ∧ ((tQ U).length : Int) ≤ 16) → Ok d 154 46 [some (vR (some 273)), x1] [] M1 Q := by
    intro M1 x1 q1 q2 q3 q4 q5 q6
    refine k_iconst i_154_46 (by decide) ?_
    refine k_istore_n (ls' := [some (vR (some 273)), some (vI 0)]) i_154_47 rfl ?_
    rw [← cpo_0 M1 (145 * M1 273 4)]
    exact l_154b ⟨q3, q4⟩ (fin M1 q1 q2 q3 q4 q5 q6) 146 0 (by omega) (by omega)
  refine k_aload_n i_154_0 rfl ?_
  refine k_getI (kz := 4) i_154_1 o_154 rfl (by decide) (s_273) rfl ?_
  refine k_bipush i_154_4 (by decide) ?_
  refine k_icmp_ne (t := 46) i_154_6 rfl (fun h6 => ?_) (fun h6 => ?_)
  · have ek : ((keepL L T).length : Int) = M 273 4 + 1 := by unfold keepL; rw [List.length_take, List.length_cons]; omega
    refine fin2 M _ (fun j => rfl) (fun b j p0 p1 => rfl) (by omega) (by omega) (by omega) (fun i U hi => ?_)
    have hi2 := (List.getElem?_eq_some_iff.mp hi).1
    have hi3 : L[i]? = some U := by
      unfold keepL at hi
      rw [List.getElem?_take_of_lt (by omega), List.getElem?_cons_succ] at hi
      exact hi
    refine ⟨?_, hL U (List.mem_of_getElem? hi3)⟩
    have q := a3 i U hi3
    rw [← a1] at q
    exact q
  · refine k_iconst i_154_9 (by decide) ?_
    refine k_istore_n (ls' := [some (vR (some 273)), some (vI 0)]) i_154_10 rfl ?_
    rw [← sh5_0 M]
    refine l_154a (by omega) ?_ 3336 0 (by omega) (by omega)
    have e4 : mu (sh5 M 3335) 273 4 23 273 4 = 23 := mu_s _ _ _ _
    have ek : ((keepL L T).length : Int) = 24 := by unfold keepL; rw [List.length_take, List.length_cons]; omega
    refine fin2 _ _ (fun j => ?_) (fun b j p0 p1 => ?_) (by omega) (by omega) (by omega) (fun i U hi => ?_)
    · rw [mu_ne (by decide)]; exact if_neg (by omega)
    · show (if b = 273 ∧ j = 4 then _ else _) = _
      rw [if_neg p1]
      exact if_neg (by omega)
    · have hi2 := (List.getElem?_eq_some_iff.mp hi).1
      have hi3 : L[i]? = some U := by
        unfold keepL at hi
        rw [List.getElem?_take_of_lt (by omega), List.getElem?_cons_succ] at hi
        exact hi
      refine ⟨?_, hL U (List.mem_of_getElem? hi3)⟩
      refine RepR.cg hKo (hL U (List.mem_of_getElem? hi3)) (a3 i U hi3) (fun j p0 p1 => ?_)
      show mu (sh5 M 3335) 273 4 23 277 (145 * (mu (sh5 M 3335) 273 4 23 273 4 - 1 - (i : Int)) + j) = M 277 _
      rw [e4, mu_ne (by decide)]
      unfold sh5
      rw [if_pos (by omega)]
      congr 1
      omega
