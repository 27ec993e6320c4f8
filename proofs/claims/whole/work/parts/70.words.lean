/-- with 201 or with 1000 for never: the same word is best -/
theorem bw_nv {f : Nat → Int} (hf : ∀ w, f w = -1000000 ∨ (0 ≤ f w ∧ f w ≤ 200)) (lg : Int) (n : Nat) : (bw (fun w => nv (f w) 201) lg n).1 = (bw (fun w => nv (f w) 1000) lg n).1 ∧ ∃ z : Int, (z = -1000000 ∨ (0 ≤ z ∧ z ≤ 200)) ∧ (bw (fun w => nv (f w) 201) lg n).2 = nv z 201 ∧ (bw (fun w => nv (f w) 1000) lg n).2 = nv z 1000 := by
  induction n with
  | zero => exact ⟨rfl, f 0, hf 0, rfl, rfl⟩
  | succ n ih =>
    obtain ⟨h1, z, h2, h3, h4⟩ := ih
    have hn := hf (n + 1)
    have e1 := bw_s (fun w => nv (f w) 201) lg n (x := nv (f (n + 1)) 201) (b := (bw (fun w => nv (f w) 201) lg n).1) (e := nv z 201) rfl (by rw [← h3])
    have e2 := bw_s (fun w => nv (f w) 1000) lg n (x := nv (f (n + 1)) 1000) (b := (bw (fun w => nv (f w) 1000) lg n).1) (e := nv z 1000) rfl (by rw [← h4])
    have hc : ((¬ lg = 0 ∧ nv z 201 < nv (f (n + 1)) 201) ∨ (lg = 0 ∧ nv (f (n + 1)) 201 < nv z 201)) ↔ ((¬ lg = 0 ∧ nv z 1000 < nv (f (n + 1)) 1000) ∨ (lg = 0 ∧ nv (f (n + 1)) 1000 < nv z 1000)) := by
      unfold nv
      by_cases a : z = -1000000 <;> by_cases b : f (n + 1) = -1000000
      · rw [if_pos a, if_pos b, if_pos a, if_pos b]; omega
      · rw [if_pos a, if_neg b, if_pos a, if_neg b]; omega
      · rw [if_neg a, if_pos b, if_neg a, if_pos b]; omega
      · rw [if_neg a, if_neg b, if_neg a, if_neg b]
    rw [e1, e2]
    by_cases c : (¬ lg = 0 ∧ nv z 1000 < nv (f (n + 1)) 1000) ∨ (lg = 0 ∧ nv (f (n + 1)) 1000 < nv z 1000)
    · rw [if_pos c, if_pos (hc.mpr c)]
      exact ⟨rfl, f (n + 1), hn, rfl, rfl⟩
    · rw [if_neg c, if_neg (fun q => c (hc.mp q))]
      exact ⟨h1, z, h2, rfl, rfl⟩
