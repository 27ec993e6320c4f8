/-! both objects, new -/
def M00 : Mem := eqM (fun _ _ => 0)
def K00 : Kt := (fun _ => 1, fun _ => 99, fun _ => 0, 0, 0)
def T00 : Tt := mkT [] (fun _ => 0) (fun _ => 0) (fun _ => 0) (fun _ => 0) 0 0 0 0
theorem m00_z {b : Nat} (j : Int) (h : b ≠ 12 ∧ b ≠ 16 ∧ b ≠ 17 ∧ b ≠ 21 ∧ b ≠ 22 ∧ b ≠ 252 ∧ b ≠ 253 ∧ b ≠ 263 ∧ b ≠ 264) : M00 b j = 0 := by
  unfold M00 eqM tdM mfill
  repeat rw [if_neg (by omega)]
theorem m00_12 {j : Int} (h : 0 ≤ j ∧ j < 8) : M00 12 j = -1 := by
  unfold M00 eqM tdM mfill
  repeat (first | rw [if_pos (by omega)] | rw [if_neg (by omega)])
theorem m00_21 {j : Int} (h : 16 ≤ j ∧ j < 28) : M00 21 j = 1 ∧ M00 22 j = 99 := by
  unfold M00 eqM tdM mfill
  constructor
  · repeat (first | rw [if_pos (by omega)] | rw [if_neg (by omega)])
  · repeat (first | rw [if_pos (by omega)] | rw [if_neg (by omega)])
theorem va00 {p : Int} (h : Va K00 0 p) : False := by
  have h2 : (0 ≤ p ∧ p < (0 : Int)) ∨ (16 ≤ p ∧ p < 16 + 0) := h
  omega
theorem rel0 : Rel M00 := by
  refine ⟨fun r r0 r1 => ?_, ?_, ?_, ?_, ⟨K00, T00, [], ?_⟩, ⟨?_, ?_⟩, ?_⟩
  · rw [m00_12 ⟨r0, r1⟩, m00_z _ (by decide), m00_z _ (by decide)]
    exact ⟨by decide, by decide, by decide, by decide, Or.inl ⟨rfl, rfl⟩⟩
  · show M00 0 13 = M00 273 6
    rw [m00_z _ (by decide), m00_z _ (by decide)]
  · show M00 0 12 = M00 273 14
    rw [m00_z _ (by decide), m00_z _ (by decide)]
  · unfold RTape
    rw [m00_z _ (by decide), m00_z _ (by decide)]
    exact ⟨rfl, by decide, by decide, fun i i0 i1 => by omega⟩
  · refine ⟨fun p _ _ => ⟨rfl, rfl⟩, ⟨⟨by decide, by decide, by decide, by decide, by decide, by decide, by decide, by decide⟩, fun p hp => (va00 hp).elim⟩, ⟨?_, by decide, by decide⟩, ?_, ?_, ?_, ?_, ?_, ?_, fun U hU => absurd hU (List.not_mem_nil), Or.inl ⟨m00_z _ (by decide), m00_z _ (by decide), rfl, rfl⟩⟩
    · refine ⟨List.nodup_nil, fun p hp => absurd hp (List.not_mem_nil), ⟨by decide, by decide, by decide, by decide, by decide, by decide, by decide, by decide, by decide⟩, fun p hp => (va00 hp).elim, fun p hp => (va00 hp).elim, fun p h0 h1 => ?_, fun p h0 h1 => ?_⟩
      · rfl
      · have h2 : p < (0 : Int) := h1
        omega
    · refine ⟨m00_z _ (by decide), m00_z _ (by decide), fun p hp => ?_⟩
      have h2 : (0 ≤ p ∧ p < (0 : Int)) ∨ (16 ≤ p ∧ p < 16 + 12) := hp
      have q := m00_21 (j := p) (by omega)
      exact ⟨q.1, q.2, fun z => by have z2 : p < (0 : Int) := z; omega⟩
    · exact ⟨m00_z _ (by decide), m00_z _ (by decide), m00_z _ (by decide), m00_z _ (by decide), m00_z _ (by decide), fun i p hi => absurd hi (by simp [T00, tQ, mkT]), fun p hp => (va00 hp).elim⟩
    · exact ⟨m00_z _ (by decide), m00_z _ (by decide), fun p hp => (va00 hp).elim⟩
    · exact ⟨m00_z _ (by decide), m00_z _ (by decide), m00_z _ (by decide), m00_z _ (by decide), m00_z _ (by decide), fun i p hi => absurd hi (by simp [T00, tQ, mkT]), fun p hp => (va00 hp).elim⟩
    · unfold ActsC
      rw [m00_z _ (by decide), m00_z _ (by decide)]
      exact ⟨by decide, by decide, rfl, by decide, fun i U hi => absurd hi (by simp)⟩
    · unfold ActsR
      rw [m00_z _ (by decide)]
      exact ⟨rfl, by decide, fun i U hi => absurd hi (by simp)⟩
  · unfold ImR
    rw [m00_z _ (by decide), m00_z _ (by decide)]
    exact ⟨rfl, Or.inl rfl⟩
  · unfold ImR
    rw [m00_z _ (by decide), m00_z _ (by decide)]
    exact ⟨rfl, Or.inl rfl⟩
  · unfold RTr
    rw [m00_z _ (by decide), m00_z _ (by decide)]
    exact ⟨rfl, by decide, by decide, fun i i0 i1 => by omega⟩
