section TOKS
variable {K : Kt} {m : Int} {T : Tt}
theorem va_nx (hK : KOk K m) (hT : TOk K m T) {p : Int} (h : (0 ≤ p ∧ p < tNx T) ∨ (16 ≤ p ∧ p < 16 + m)) : Va K m p := by
  have := hT.2.2.1.2.1
  unfold Va
  omega
theorem TOk.tell (hK : KOk K m) (h : TOk K m T) : TOk K m (tellF K T) := by
  obtain ⟨u1, u2, u3, u4, u5, u6, u7⟩ := id h
  refine ⟨u1, u2, u3, fun p hp => ?_, u5, u6, u7⟩
  obtain ⟨s1, s2, s3, s4⟩ := u4 p hp
  refine ⟨s1, s2, ?_⟩
  show 0 ≤ tellB K T 1 (tQ T).length p ∧ tellB K T 1 (tQ T).length p ≤ 3
  unfold tellB
  split
  · next hh =>
    have hm : fore T p ∈ tQ T := q_mem (by have := hh.2.1; omega)
    have := u4 _ (h.va hm)
    unfold bel
    split <;> omega
  · omega
theorem TOk.tick (h : TOk K m T) (hm : tMi T < 100000) : TOk K m (tickF T) := by
  obtain ⟨u1, u2, u3, u4, u5, u6, u7⟩ := id h
  refine ⟨u1, u2, ?_, fun p hp => ?_, u5, u6, u7⟩
  · show 0 ≤ tNx T ∧ tNx T ≤ kPe K ∧ ((tQ T).length : Int) ≤ tNx T + m ∧ 0 ≤ tMi T + 1 ∧ tMi T + 1 ≤ 100000 ∧ 0 ≤ tCa T ∧ tCa T ≤ 3 ∧ 0 ≤ tSe T ∧ tSe T ≤ 9
    omega
  · have := u4 p hp
    show 0 ≤ tS T p ∧ tS T p ≤ tMi T + 1 ∧ 0 ≤ tB T p ∧ tB T p ≤ 3
    omega
theorem mem_erase {l : List Int} (hn : l.Nodup) {k : Nat} (hk : k < l.length) (p : Int) : p ∈ l.eraseIdx k ↔ (p ∈ l ∧ p ≠ l.getD k 0) := by
  rw [List.mem_eraseIdx_iff_getElem?]
  constructor
  · rintro ⟨i, hi, h⟩
    have hl := (List.getElem?_eq_some_iff.mp h).1
    refine ⟨List.mem_of_getElem? h, fun q => hi ?_⟩
    rw [q_at hl] at h
    have e := Option.some.inj h
    have q1 := q_idx hn hl
    rw [e, q, q_idx hn hk] at q1
    exact q1.symm
  · rintro ⟨h1, h2⟩
    refine ⟨l.idxOf p, fun q => h2 ?_, ?_⟩
    · rw [← q, q_get h1]
    · rw [q_at (List.idxOf_lt_length_of_mem h1), q_get h1]
theorem TOk.out (hK : KOk K m) (h : TOk K m T) {k : Nat} (hk : k < (tQ T).length) {w : Int} (hw : 2 ≤ w ∧ w ≤ 4) : TOk K m (outF T k w) := by
  obtain ⟨u1, u2, u3, u4, u5, u6, u7⟩ := id h
  have hx : (tQ T).getD k 0 ∈ tQ T := q_mem hk
  have hx2 := u2 _ hx
  obtain ⟨⟨g1, g2, g3, g4, g5, g6, g7, g8⟩, -⟩ := id hK
  refine ⟨u1.sublist (List.eraseIdx_sublist _ _), fun p hp => u2 p (List.mem_of_mem_eraseIdx hp), ?_, u4, fun p hp => ?_, fun p h1 h2 => ?_, fun p h1 h2 h3 => ?_⟩
  · show 0 ≤ tNx T ∧ tNx T ≤ kPe K ∧ (((tQ T).eraseIdx k).length : Int) ≤ tNx T + m ∧ 0 ≤ tMi T ∧ tMi T ≤ 100000 ∧ 0 ≤ tCa T ∧ tCa T ≤ 3 ∧ 0 ≤ tSe T ∧ tSe T ≤ 9
    have := List.length_eraseIdx_le (tQ T) k
    omega
  · show up (tW T) ((tQ T).getD k 0) w p = 1 ↔ p ∈ (tQ T).eraseIdx k
    rw [mem_erase u1 hk]
    by_cases e : p = (tQ T).getD k 0
    · rw [e, up_s]
      constructor
      · intro q; omega
      · intro q; exact absurd rfl q.2
    · rw [up_n _ _ e, u5 p hp]
      exact ⟨fun q => ⟨q, e⟩, fun q => q.1⟩
  · show up (tW T) ((tQ T).getD k 0) w p = 0
    have h1 : tNx T ≤ p := h1
    rw [up_n _ _ (by intro q; rw [q] at h1 h2; omega)]
    exact u6 p h1 h2
  · show 2 ≤ up (tW T) ((tQ T).getD k 0) w p ∧ up (tW T) ((tQ T).getD k 0) w p ≤ 4
    by_cases e : p = (tQ T).getD k 0
    · rw [e, up_s]; exact hw
    · rw [up_n _ _ e]
      exact u7 p h1 h2 (fun q => h3 ((mem_erase u1 hk p).mpr ⟨q, e⟩))
theorem TOk.serv (hK : KOk K m) (h : TOk K m T) : TOk K m (servF T) := by
  unfold servF
  split
  · next hc => exact h.out hK hc.2.2 (by decide)
  · exact h
theorem TOk.leave (hK : KOk K m) (h : TOk K m T) (c : Bool) : TOk K m (leaveF K T c) := by
  obtain ⟨u1, u2, u3, u4, u5, u6, u7⟩ := id h
  obtain ⟨⟨g1, g2, g3, g4, g5, g6, g7, g8⟩, -⟩ := id hK
  have hidx : ∀ p, (tQ T).idxOf p < (tQ T).length ↔ p ∈ tQ T := fun p => List.idxOf_lt_length_iff
  refine ⟨u1.sublist List.filter_sublist, fun p hp => u2 p (List.mem_filter.mp hp).1, ?_, u4, fun p hp => ?_, fun p h1 h2 => ?_, fun p h1 h2 h3 => ?_⟩
  · show 0 ≤ tNx T ∧ tNx T ≤ kPe K ∧ (((tQ T).filter (stays K T c)).length : Int) ≤ tNx T + m ∧ 0 ≤ tMi T ∧ tMi T ≤ 100000 ∧ 0 ≤ tCa T ∧ tCa T ≤ 3 ∧ 0 ≤ tSe T ∧ tSe T ≤ 9
    have := List.length_filter_le (stays K T c) (tQ T)
    omega
  · show leaveW K T c 0 (tQ T).length p = 1 ↔ p ∈ (tQ T).filter (stays K T c)
    unfold leaveW
    rw [List.mem_filter]
    split
    · next hc =>
      constructor
      · intro q; omega
      · intro q; rw [q.2] at hc; exact absurd hc.2.2 (by simp)
    · next hc =>
      rw [u5 p hp]
      constructor
      · intro q
        refine ⟨q, ?_⟩
        cases hs : stays K T c p with
        | true => rfl
        | false => exact absurd ⟨Nat.zero_le _, (hidx p).mpr q, hs⟩ hc
      · intro q; exact q.1
  · show leaveW K T c 0 (tQ T).length p = 0
    have h1 : tNx T ≤ p := h1
    unfold leaveW
    rw [if_neg]
    · exact u6 p h1 h2
    · intro q
      have := u2 p ((hidx p).mp q.2.1)
      omega
  · show 2 ≤ leaveW K T c 0 (tQ T).length p ∧ leaveW K T c 0 (tQ T).length p ≤ 4
    unfold leaveW
    split
    · omega
    · next hc =>
      refine u7 p h1 h2 (fun q => h3 (List.mem_filter.mpr ⟨q, ?_⟩))
      cases hs : stays K T c p with
      | true => rfl
      | false => exact absurd ⟨Nat.zero_le _, (hidx p).mpr q, hs⟩ hc
/-- stood is at most the minute, of those who have just stood 1 more: the minute has gone on before -/
theorem TOk.stand (hK : KOk K m) (h : TOk K m T) (hs : ∀ p, Va K m p → tS T p + 1 ≤ tMi T) : TOk K m (standF K T) := by
  unfold standF
  refine TOk.leave hK ?_ _
  obtain ⟨u1, u2, u3, u4, u5, u6, u7⟩ := id h
  refine ⟨u1, u2, u3, fun p hp => ?_, u5, u6, u7⟩
  have := u4 p hp
  have := hs p hp
  show 0 ≤ (if p ∈ tQ T then tS T p + 1 else tS T p) ∧ (if p ∈ tQ T then tS T p + 1 else tS T p) ≤ tMi T ∧ 0 ≤ tB T p ∧ tB T p ≤ 3
  split <;> omega
theorem TOk.meet (hK : KOk K m) (h : TOk K m T) (th : Int) : TOk K m (meetF K T th) := by
  obtain ⟨u1, u2, u3, u4, u5, u6, u7⟩ := id h
  obtain ⟨⟨g1, g2, g3, g4, g5, g6, g7, g8⟩, -⟩ := id hK
  have hnq : tNx T < kPe K → tNx T ∉ tQ T := fun h1 q => by have := u2 _ q; omega
  unfold meetF
  split
  · next h1 =>
    split
    · refine ⟨?_, ?_, ?_, u4, fun p hp => ?_, fun p h2 h3 => ?_, fun p h2 h3 h4 => ?_⟩
      · show (tQ T ++ [tNx T]).Nodup
        rw [List.nodup_append]
        refine ⟨u1, by simp, fun a ha b hb => ?_⟩
        rw [List.mem_singleton] at hb
        subst hb
        intro q
        rw [q] at ha
        exact hnq h1 ha
      · intro p hp
        have hp : p ∈ tQ T ++ [tNx T] := hp
        show (0 ≤ p ∧ p < tNx T + 1) ∨ _
        rcases List.mem_append.mp hp with q | q
        · have := u2 p q; omega
        · rw [List.mem_singleton] at q; omega
      · show 0 ≤ tNx T + 1 ∧ tNx T + 1 ≤ kPe K ∧ ((tQ T ++ [tNx T]).length : Int) ≤ tNx T + 1 + m ∧ 0 ≤ tMi T ∧ tMi T ≤ 100000 ∧ 0 ≤ tCa T ∧ tCa T ≤ 3 ∧ 0 ≤ tSe T ∧ tSe T ≤ 9
        rw [List.length_append]
        simp only [List.length_cons, List.length_nil]
        omega
      · show up (tW T) (tNx T) 1 p = 1 ↔ p ∈ tQ T ++ [tNx T]
        rw [List.mem_append, List.mem_singleton]
        by_cases e : p = tNx T
        · rw [e, up_s]; simp
        · rw [up_n _ _ e, u5 p hp]
          exact ⟨Or.inl, fun q => q.resolve_right e⟩
      · have h2 : tNx T + 1 ≤ p := h2
        show up (tW T) (tNx T) 1 p = 0
        rw [up_n _ _ (by omega)]
        exact u6 p (by omega) h3
      · have h3 : p < tNx T + 1 := h3
        have h4 : p ∉ tQ T ++ [tNx T] := h4
        rw [List.mem_append, List.mem_singleton] at h4
        show 2 ≤ up (tW T) (tNx T) 1 p ∧ up (tW T) (tNx T) 1 p ≤ 4
        rw [up_n _ _ (fun q => h4 (Or.inr q))]
        exact u7 p h2 (by have : p ≠ tNx T := fun q => h4 (Or.inr q)
                          omega) (fun q => h4 (Or.inl q))
    · refine ⟨u1, ?_, ?_, u4, fun p hp => ?_, fun p h2 h3 => ?_, fun p h2 h3 h4 => ?_⟩
      · intro p hp
        have := u2 p hp
        show (0 ≤ p ∧ p < tNx T + 1) ∨ _
        omega
      · show 0 ≤ tNx T + 1 ∧ tNx T + 1 ≤ kPe K ∧ ((tQ T).length : Int) ≤ tNx T + 1 + m ∧ 0 ≤ tMi T ∧ tMi T ≤ 100000 ∧ 0 ≤ tCa T ∧ tCa T ≤ 3 ∧ 0 ≤ tSe T ∧ tSe T ≤ 9
        omega
      · show up (tW T) (tNx T) 4 p = 1 ↔ p ∈ tQ T
        by_cases e : p = tNx T
        · rw [e, up_s]
          constructor
          · intro q; omega
          · intro q; exact absurd q (hnq h1)
        · rw [up_n _ _ e]; exact u5 p hp
      · have h2 : tNx T + 1 ≤ p := h2
        show up (tW T) (tNx T) 4 p = 0
        rw [up_n _ _ (by omega)]
        exact u6 p (by omega) h3
      · have h3 : p < tNx T + 1 := h3
        show 2 ≤ up (tW T) (tNx T) 4 p ∧ up (tW T) (tNx T) 4 p ≤ 4
        by_cases e : p = tNx T
        · rw [e, up_s]; omega
        · rw [up_n _ _ e]
          exact u7 p h2 (by omega) h4
  · exact h
theorem serv_s (T : Tt) : tS (servF T) = tS T ∧ tMi (servF T) = tMi T ∧ tNx (servF T) = tNx T := by
  unfold servF
  split <;> exact ⟨rfl, rfl, rfl⟩
theorem TOk.min (hK : KOk K m) (h : TOk K m T) (hm : tMi T < 100000) (th : Int) : TOk K m (minF K T th) := by
  unfold minF
  refine TOk.meet hK (TOk.stand hK (TOk.serv hK ((h.tell hK).tick hm)) (fun p hp => ?_)) th
  rw [(serv_s _).1, (serv_s _).2.1]
  show tS T p + 1 ≤ tMi T + 1
  have := h.2.2.2.1 p hp
  omega
theorem min_mi (th : Int) : tMi (minF K T th) = tMi T + 1 := by
  unfold minF meetF
  have e : tMi (standF K (servF (tickF (tellF K T)))) = tMi T + 1 := by
    show tMi (servF (tickF (tellF K T))) = _
    rw [(serv_s _).2.1]
    rfl
  split
  · split <;> exact e
  · exact e
end TOKS
