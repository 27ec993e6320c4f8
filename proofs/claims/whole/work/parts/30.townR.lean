/-! the reference's town, in one row of ints: cell 274 -/
def RepR (M : Mem) (K : Kt) (m : Int) (T : Tt) : Prop :=
  M 274 142 = tMi T ∧ M 274 143 = tCa T ∧ M 274 144 = tSe T ∧ M 274 140 = (tQ T).length ∧ M 274 141 = tNx T ∧
  (∀ (i : Nat) (p : Int), (tQ T)[i]? = some p → M 274 (112 + i) = p) ∧
  ∀ p, Va K m p → M 274 (56 + p) = tB T p ∧ M 274 p = tW T p ∧ M 274 (28 + p) = tS T p ∧ M 274 (84 + p) = tO T p
def RepKR (M : Mem) (K : Kt) (m : Int) : Prop := M 274 229 = kPe K ∧ M 274 230 = kPe K - kWt K ∧ ∀ p, Va K m p → M 274 (145 + p) = kKd K p ∧ M 274 (173 + p) = kPa K p ∧ (p < kPe K → M 274 (201 + p) = kNe K p)
/-- nothing but what changes of the town, and the two rows of tellOn -/
def OutR (M M' : Mem) : Prop := ∀ b j, ¬ (b = 274 ∧ 0 ≤ j ∧ j < 145) → b ≠ 286 → b ≠ 287 → M' b j = M b j
theorem OutR.rf (M : Mem) : OutR M M := fun _ _ _ _ _ => rfl
theorem OutR.tr {M M1 M2 : Mem} (h : OutR M M1) (h2 : OutR M1 M2) : OutR M M2 := fun b j h0 h3 h4 => (h2 b j h0 h3 h4).trans (h b j h0 h3 h4)
theorem OutR.mu {M M1 : Mem} {b : Nat} {j v : Int} (h : OutR M M1) (hb : (b = 274 ∧ 0 ≤ j ∧ j < 145) ∨ b = 286 ∨ b = 287) : OutR M (mu M1 b j v) := fun c i h0 h1 h2 => by
  have : ¬ (c = b ∧ i = j) := by
    rintro ⟨rfl, rfl⟩
    rcases hb with q | q | q
    · exact h0 q
    · exact h1 q
    · exact h2 q
  exact (if_neg this).trans (h c i h0 h1 h2)
theorem RepKR.out {M M' : Mem} {K : Kt} {m : Int} (hK : KOk K m) (h : RepKR M K m) (ho : OutR M M') : RepKR M' K m := by
  obtain ⟨⟨g1, g2, g3, g4, g5, g6, g7, g8⟩, -⟩ := id hK
  obtain ⟨h1, h2, h3⟩ := h
  refine ⟨by rw [ho _ _ (by omega) (by decide) (by decide)]; exact h1, by rw [ho _ _ (by omega) (by decide) (by decide)]; exact h2, fun p hp => ?_⟩
  have hp2 : (0 ≤ p ∧ p < kPe K) ∨ (16 ≤ p ∧ p < 16 + m) := hp
  obtain ⟨f1, f2, f3⟩ := h3 p hp
  exact ⟨by rw [ho _ _ (by omega) (by decide) (by decide)]; exact f1, by rw [ho _ _ (by omega) (by decide) (by decide)]; exact f2, fun q => by rw [ho _ _ (by omega) (by decide) (by decide)]; exact f3 q⟩
section RR
variable {M : Mem} {K : Kt} {m : Int} {T : Tt}
theorem RepR.q (h : RepR M K m T) {i : Int} (h0 : 0 ≤ i) (h1 : i < (tQ T).length) : M 274 (112 + i) = (tQ T).getD i.toNat 0 := by
  have h2 := h.2.2.2.2.2.1 i.toNat _ (q_at (by omega))
  rw [Int.toNat_of_nonneg h0] at h2
  exact h2
/-- a person's number lies in 0 .. 27 -/
theorem va_b (hK : KOk K m) {p : Int} (hp : Va K m p) : 0 ≤ p ∧ p < 28 := by
  obtain ⟨⟨g1, g2, g3, g4, g5, g6, g7, g8⟩, -⟩ := id hK
  have hp2 : (0 ≤ p ∧ p < kPe K) ∨ (16 ≤ p ∧ p < 16 + m) := hp
  omega
theorem q28 (hK : KOk K m) (hT : TOk K m T) : ((tQ T).length : Int) ≤ 28 := by
  obtain ⟨⟨g1, g2, g3, g4, g5, g6, g7, g8⟩, -⟩ := id hK
  have := hT.2.2.1
  omega
theorem RepR.setW (hK : KOk K m) (hl : ((tQ T).length : Int) ≤ 28) (h : RepR M K m T) {x : Int} (v : Int) (hx : Va K m x) : RepR (mu M 274 x v) K m (mkT (tQ T) (up (tW T) x v) (tS T) (tB T) (tO T) (tMi T) (tCa T) (tSe T) (tNx T)) := by
  have hb := va_b hK hx
  obtain ⟨r1, r2, r3, r4, r5, rq, rp⟩ := id h
  refine ⟨by rw [mu_j (by omega)]; exact r1, by rw [mu_j (by omega)]; exact r2, by rw [mu_j (by omega)]; exact r3, by rw [mu_j (by omega)]; exact r4, by rw [mu_j (by omega)]; exact r5, fun i p hi => by rw [mu_j (by omega)]; exact rq i p hi, fun p hp => ?_⟩
  have hpb := va_b hK hp
  obtain ⟨f1, f2, f3, f4⟩ := rp p hp
  refine ⟨by rw [mu_j (by omega)]; exact f1, ?_, by rw [mu_j (by omega)]; exact f3, by rw [mu_j (by omega)]; exact f4⟩
  show _ = up (tW T) x v p
  by_cases e : p = x
  · subst e; rw [mu_s, up_s]
  · rw [mu_j e, up_n _ _ e]; exact f2
theorem RepR.setS (hK : KOk K m) (hl : ((tQ T).length : Int) ≤ 28) (h : RepR M K m T) {x : Int} (v : Int) (hx : Va K m x) : RepR (mu M 274 (28 + x) v) K m (mkT (tQ T) (tW T) (up (tS T) x v) (tB T) (tO T) (tMi T) (tCa T) (tSe T) (tNx T)) := by
  have hb := va_b hK hx
  obtain ⟨r1, r2, r3, r4, r5, rq, rp⟩ := id h
  refine ⟨by rw [mu_j (by omega)]; exact r1, by rw [mu_j (by omega)]; exact r2, by rw [mu_j (by omega)]; exact r3, by rw [mu_j (by omega)]; exact r4, by rw [mu_j (by omega)]; exact r5, fun i p hi => by rw [mu_j (by omega)]; exact rq i p hi, fun p hp => ?_⟩
  have hpb := va_b hK hp
  obtain ⟨f1, f2, f3, f4⟩ := rp p hp
  refine ⟨by rw [mu_j (by omega)]; exact f1, by rw [mu_j (by omega)]; exact f2, ?_, by rw [mu_j (by omega)]; exact f4⟩
  show _ = up (tS T) x v p
  by_cases e : p = x
  · subst e; rw [mu_s, up_s]
  · rw [mu_j (by omega), up_n _ _ e]; exact f3
theorem RepR.setB (hK : KOk K m) (hl : ((tQ T).length : Int) ≤ 28) (h : RepR M K m T) {x : Int} (v : Int) (hx : Va K m x) : RepR (mu M 274 (56 + x) v) K m (mkT (tQ T) (tW T) (tS T) (up (tB T) x v) (tO T) (tMi T) (tCa T) (tSe T) (tNx T)) := by
  have hb := va_b hK hx
  obtain ⟨r1, r2, r3, r4, r5, rq, rp⟩ := id h
  refine ⟨by rw [mu_j (by omega)]; exact r1, by rw [mu_j (by omega)]; exact r2, by rw [mu_j (by omega)]; exact r3, by rw [mu_j (by omega)]; exact r4, by rw [mu_j (by omega)]; exact r5, fun i p hi => by rw [mu_j (by omega)]; exact rq i p hi, fun p hp => ?_⟩
  have hpb := va_b hK hp
  obtain ⟨f1, f2, f3, f4⟩ := rp p hp
  refine ⟨?_, by rw [mu_j (by omega)]; exact f2, by rw [mu_j (by omega)]; exact f3, by rw [mu_j (by omega)]; exact f4⟩
  show _ = up (tB T) x v p
  by_cases e : p = x
  · subst e; rw [mu_s, up_s]
  · rw [mu_j (by omega), up_n _ _ e]; exact f1
theorem RepR.setO (hK : KOk K m) (hl : ((tQ T).length : Int) ≤ 28) (h : RepR M K m T) {x : Int} (v : Int) (hx : Va K m x) : RepR (mu M 274 (84 + x) v) K m (mkT (tQ T) (tW T) (tS T) (tB T) (up (tO T) x v) (tMi T) (tCa T) (tSe T) (tNx T)) := by
  have hb := va_b hK hx
  obtain ⟨r1, r2, r3, r4, r5, rq, rp⟩ := id h
  refine ⟨by rw [mu_j (by omega)]; exact r1, by rw [mu_j (by omega)]; exact r2, by rw [mu_j (by omega)]; exact r3, by rw [mu_j (by omega)]; exact r4, by rw [mu_j (by omega)]; exact r5, fun i p hi => by rw [mu_j (by omega)]; exact rq i p hi, fun p hp => ?_⟩
  have hpb := va_b hK hp
  obtain ⟨f1, f2, f3, f4⟩ := rp p hp
  refine ⟨by rw [mu_j (by omega)]; exact f1, by rw [mu_j (by omega)]; exact f2, by rw [mu_j (by omega)]; exact f3, ?_⟩
  show _ = up (tO T) x v p
  by_cases e : p = x
  · subst e; rw [mu_s, up_s]
  · rw [mu_j (by omega), up_n _ _ e]; exact f4
/-- the ints behind the queue -/
theorem RepR.fld (hK : KOk K m) (hl : ((tQ T).length : Int) ≤ 28) (h : RepR M K m T) (x : Int) : RepR (mu M 274 141 x) K m (mkT (tQ T) (tW T) (tS T) (tB T) (tO T) (tMi T) (tCa T) (tSe T) x) ∧ RepR (mu M 274 142 x) K m (mkT (tQ T) (tW T) (tS T) (tB T) (tO T) x (tCa T) (tSe T) (tNx T)) ∧ RepR (mu M 274 143 x) K m (mkT (tQ T) (tW T) (tS T) (tB T) (tO T) (tMi T) x (tSe T) (tNx T)) ∧ RepR (mu M 274 144 x) K m (mkT (tQ T) (tW T) (tS T) (tB T) (tO T) (tMi T) (tCa T) x (tNx T)) := by
  obtain ⟨r1, r2, r3, r4, r5, rq, rp⟩ := id h
  refine ⟨⟨?_, ?_, ?_, ?_, ?_, ?_, ?_⟩, ⟨?_, ?_, ?_, ?_, ?_, ?_, ?_⟩, ⟨?_, ?_, ?_, ?_, ?_, ?_, ?_⟩, ⟨?_, ?_, ?_, ?_, ?_, ?_, ?_⟩⟩
  all_goals first
    | (rw [mu_s]; rfl)
    | (rw [mu_j (by decide)]; assumption)
    | (intro j p hj
       have : j < (tQ T).length := (List.getElem?_eq_some_iff.mp hj).1
       rw [mu_j (by omega)]; exact rq j p hj)
    | (intro p hp
       have hpb := va_b hK hp
       obtain ⟨f2, f3, f4, f5⟩ := rp p hp
       exact ⟨by rw [mu_j (by omega)]; exact f2, by rw [mu_j (by omega)]; exact f3, by rw [mu_j (by omega)]; exact f4, by rw [mu_j (by omega)]; exact f5⟩)
/-- cells beside the town -/
theorem RepR.off (h : RepR M K m T) {M' : Mem} (he : ∀ j, M' 274 j = M 274 j) : RepR M' K m T := by
  obtain ⟨r1, r2, r3, r4, r5, rq, rp⟩ := id h
  exact ⟨by rw [he]; exact r1, by rw [he]; exact r2, by rw [he]; exact r3, by rw [he]; exact r4, by rw [he]; exact r5, fun i p hi => by rw [he]; exact rq i p hi, fun p hp => by rw [he, he, he, he]; exact rp p hp⟩
end RR
def eraF (T : Tt) (k : Nat) : Tt := mkT ((tQ T).eraseIdx k) (tW T) (tS T) (tB T) (tO T) (tMi T) (tCa T) (tSe T) (tNx T)
/-! told on, from the front -/
section TELL2
variable {K : Kt} {T : Tt} {k : Nat}
theorem tell_ne2 (hn : (tQ T).Nodup) {p : Int} (hk : k < (tQ T).length) (hp : p ≠ (tQ T).getD k 0) : hrs K T 1 (k + 1) p ↔ hrs K T 1 k p := by
  have e := idx_s hn hk p
  constructor
  · rintro ⟨h1, h2, h3⟩
    exact ⟨h1, (e.mp h2).resolve_right hp, h3⟩
  · rintro ⟨h1, h2, h3⟩
    exact ⟨h1, by omega, h3⟩
theorem hrs_x2 (hn : (tQ T).Nodup) (hk : k < (tQ T).length) (h1 : 1 ≤ k) : hrs K T 1 (k + 1) ((tQ T).getD k 0) ↔ (¬ bel K T ((tQ T).getD (k - 1) 0) = 0 ∧ takes K T ((tQ T).getD k 0)) := by
  unfold hrs
  rw [q_idx hn hk, fore_x hn hk]
  exact ⟨fun h => h.2.2, fun h => ⟨h1, Nat.lt_succ_self k, h⟩⟩
theorem hrs_hi (hn : (tQ T).Nodup) {lo : Nat} (hk : k < (tQ T).length) : ¬ hrs K T lo k ((tQ T).getD k 0) := by
  intro q
  have := q.2.1
  rw [q_idx hn hk] at this
  omega
theorem tellP_skip2 (hn : (tQ T).Nodup) (hk : k < (tQ T).length) (h1 : 1 ≤ k) (h : ¬ (¬ bel K T ((tQ T).getD (k - 1) 0) = 0 ∧ takes K T ((tQ T).getD k 0))) : tellP K T 1 (k + 1) = tellP K T 1 k := by
  have e : ∀ p, hrs K T 1 (k + 1) p ↔ hrs K T 1 k p := fun p => by
    by_cases hp : p = (tQ T).getD k 0
    · subst hp
      exact ⟨fun q => absurd ((hrs_x2 hn hk h1).mp q) h, fun q => absurd q (hrs_hi hn hk)⟩
    · exact tell_ne2 hn hk hp
  have e1 : tellB K T 1 (k + 1) = tellB K T 1 k := by
    funext p
    unfold tellB
    by_cases q : hrs K T 1 k p
    · rw [if_pos q, if_pos ((e p).mpr q)]
    · rw [if_neg q, if_neg (fun z => q ((e p).mp z))]
  have e2 : tellO K T 1 (k + 1) = tellO K T 1 k := by
    funext p
    unfold tellO
    by_cases q : hrs K T 1 k p
    · rw [if_pos q, if_pos ((e p).mpr q)]
    · rw [if_neg q, if_neg (fun z => q ((e p).mp z))]
  unfold tellP
  rw [e1, e2]
theorem tellP_none {lo hi : Nat} (h : hi ≤ lo) : tellP K T lo hi = T := by
  have e : ∀ p, ¬ hrs K T lo hi p := fun p q => by have := q.1; have := q.2.1; omega
  have e1 : tellB K T lo hi = tB T := by funext p; exact if_neg (e _)
  have e2 : tellO K T lo hi = tO T := by funext p; exact if_neg (e _)
  unfold tellP
  rw [e1, e2]
  rfl
/-- one more is told -/
theorem tellP_hear (hn : (tQ T).Nodup) (hk : k < (tQ T).length) (h1 : 1 ≤ k) (h : ¬ bel K T ((tQ T).getD (k - 1) 0) = 0 ∧ takes K T ((tQ T).getD k 0)) :
    tellP K T 1 (k + 1) = mkT (tQ T) (tW T) (tS T) (up (tellB K T 1 k) ((tQ T).getD k 0) (bel K T ((tQ T).getD (k - 1) 0))) (up (tellO K T 1 k) ((tQ T).getD k 0) (tO T ((tQ T).getD (k - 1) 0))) (tMi T) (tCa T) (tSe T) (tNx T) := by
  have e1 : tellB K T 1 (k + 1) = up (tellB K T 1 k) ((tQ T).getD k 0) (bel K T ((tQ T).getD (k - 1) 0)) := by
    funext p
    by_cases hp : p = (tQ T).getD k 0
    · rw [hp, up_s]
      unfold tellB
      rw [if_pos ((hrs_x2 hn hk h1).mpr h), fore_x hn hk]
    · rw [up_n _ _ hp]
      unfold tellB
      by_cases q : hrs K T 1 k p
      · rw [if_pos q, if_pos ((tell_ne2 hn hk hp).mpr q)]
      · rw [if_neg q, if_neg (fun z => q ((tell_ne2 hn hk hp).mp z))]
  have e2 : tellO K T 1 (k + 1) = up (tellO K T 1 k) ((tQ T).getD k 0) (tO T ((tQ T).getD (k - 1) 0)) := by
    funext p
    by_cases hp : p = (tQ T).getD k 0
    · rw [hp, up_s]
      unfold tellO
      rw [if_pos ((hrs_x2 hn hk h1).mpr h), fore_x hn hk]
    · rw [up_n _ _ hp]
      unfold tellO
      by_cases q : hrs K T 1 k p
      · rw [if_pos q, if_pos ((tell_ne2 hn hk hp).mpr q)]
      · rw [if_neg q, if_neg (fun z => q ((tell_ne2 hn hk hp).mp z))]
  unfold tellP
  rw [e1, e2]
end TELL2
