/-- an act: the town and the acts anew -/
theorem Rel.act {M M' : Mem} {K : Kt} {T : Tt} {L : List Tt} (h : Rel M) (hs : ∀ (b : Nat) (j : Int), ¬ (25 ≤ b ∧ b ≤ 176) → ¬ (b = 274 ∧ 0 ≤ j ∧ j < 145) → ¬ (b = 273 ∧ j = 4) → b ≠ 277 → b ≠ 286 → b ≠ 287 → M' b j = M b j) (hw : TwR M' K T L) : Rel M' := by
  obtain ⟨a1, a2, a3, a4, -, ⟨a6, a7⟩, a8⟩ := h
  exact ⟨a1.fr (fun b j hb => hs b j (by omega) (by omega) (by omega) (by omega) (by omega) (by omega)), a2.fr (hs _ _ (by omega) (by omega) (by omega) (by omega) (by omega) (by omega)) (hs _ _ (by omega) (by omega) (by omega) (by omega) (by omega) (by omega)), a3.fr (hs _ _ (by omega) (by omega) (by omega) (by omega) (by omega) (by omega)) (hs _ _ (by omega) (by omega) (by omega) (by omega) (by omega) (by omega)), a4.fr (fun j => hs _ _ (by omega) (by omega) (by omega) (by omega) (by omega) (by omega)) (fun j => hs _ _ (by omega) (by omega) (by omega) (by omega) (by omega) (by omega)) (hs _ _ (by omega) (by omega) (by omega) (by omega) (by omega) (by omega)) (fun j => hs _ _ (by omega) (by omega) (by omega) (by omega) (by omega) (by omega)), ⟨K, T, L, hw⟩, ⟨a6.fr (by decide) (fun b j hb => hs b j (by omega) (by omega) (by omega) (by omega) (by omega) (by omega)), a7.fr (by decide) (fun b j hb => hs b j (by omega) (by omega) (by omega) (by omega) (by omega) (by omega))⟩, a8.fr (fun j => hs _ _ (by omega) (by omega) (by omega) (by omega) (by omega) (by omega)) (fun j => hs _ _ (by omega) (by omega) (by omega) (by omega) (by omega) (by omega)) (hs _ _ (by omega) (by omega) (by omega) (by omega) (by omega) (by omega)) (fun j => hs _ _ (by omega) (by omega) (by omega) (by omega) (by omega) (by omega))⟩
theorem sane_keep {K : Kt} {T : Tt} {L : List Tt} (hT : Sane K T) (hL : ∀ U ∈ L, Sane K U) : ∀ U ∈ keepL L T, Sane K U := by
  intro U hU
  rcases List.mem_cons.mp (List.mem_of_mem_take hU) with q | q
  · rw [q]; exact hT
  · exact hL U q
theorem sane_len {K : Kt} {U : Tt} (hK : KOk K 0) (h : Sane K U) : ((tQ U).length : Int) ≤ 16 := by
  have := h.1.2.2.1
  have := hK.1
  omega
