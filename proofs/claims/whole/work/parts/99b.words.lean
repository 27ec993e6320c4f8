/-! THE LAW: what is known at its entry -/
theorem w_ao5 : Cond.arrayOver (.object RX5) ∈ tables_1 := by decide +kernel
theorem w_ao6 : Cond.arrayOver (.object RX6) ∈ tables_1 := by decide +kernel
theorem w_aoA : Cond.arrayOver (.array .int) ∈ tables_1 := by decide +kernel
theorem w_mln : Cond.methodLinkNest "ElbowQueue" 18 ⟨"ElbowQueue$Reader", "<init>", "()V"⟩ "ElbowQueue" ∈ tables_1 := by decide +kernel
theorem w_lay : ∀ j < 3, Cond.laysStatic RX1 (sN j) "[I" ∈ tables_1 := by decide +kernel
theorem w_i1 : Cond.initialized RX1 ∈ tables_1 := by decide +kernel
def elW (j i : Nat) : Cond := .eq (.elem (.static RX1 (sN j) "[I") (.int (Int32.ofNat i))) (.int (Int32.ofInt ((sT j).getD i 0)))
set_option maxRecDepth 100000 in
theorem nw_in : ∀ j < 3, Cond.arrayOf (.static RX1 (sN j) "[I") .int ∈ flatC (Jvm.Cond.and given_1 narrow_1) ∧ Cond.eq (.length (.static RX1 (sN j) "[I")) (.int 6) ∈ flatC (Jvm.Cond.and given_1 narrow_1) ∧ ∀ i < 6, elW j i ∈ flatC (Jvm.Cond.and given_1 narrow_1) := by decide +kernel

theorem law_CK {s : State} {b : Nat} (hts : ∀ w ∈ lw_tbl, w.before #[Value.ref b] s = true) (hgv : (Jvm.Cond.and given_1 narrow_1).before #[Value.ref b] s = true) : ∃ (D : va_G) (cA : Nat → ClassId) (tt : Nat → Nat), CK D cA s.heap.size tt s #[Value.ref b] := by
  have ht : ∀ w ∈ tables_1, w.before #[Value.ref b] s = true := fun w hw => hts w (List.mem_append_right _ hw)
  have hk : ∀ ci : Nat, ∃ q : ClassId × (Nat → Nat), ci < 9 → u_Kn s (cN ci) (Ct ci) (fnum ci) q.1 q.2 := by
    intro ci
    by_cases h : ci < 9
    · obtain ⟨cC, iS, q⟩ := u_known (C := cN ci) (T := Ct ci) (N := fnum ci) (n := fnum ci) ht (cls_ws ci h) (ht _ (cls_inst ci h).1)
      exact ⟨(cC, iS), fun _ => q⟩
    · exact ⟨(0, fun _ => 0), fun q => absurd q h⟩
  have hst : ∀ j : Nat, ∃ t : Nat, j < 3 → va_Z RX1 (sN j) "[I" (.ref t) (fun q => s.heap.size ≤ q) s s.heap ∧ va_T .int t 6 (fun i => .int (Int32.ofInt ((sT j).getD i 0))) (fun q => s.heap.size ≤ q) s s.heap := by
    intro j
    by_cases h : j < 3
    · have hs := flat_of_before _ hgv
      obtain ⟨n1, n2, n3⟩ := nw_in j h
      obtain ⟨t, h1, h2⟩ := va_Tof (N := 6) (f := fun i => .int (Int32.ofInt ((sT j).getD i 0))) (A := fun q => s.heap.size ≤ q) (by decide) (hs _ n1) (va_eqt (hs _ n2)) (fun i hi => va_eqt (hs _ (n3 i hi))) (fun a ha q => by omega)
      exact ⟨t, fun _ => ⟨va_Zref (ht _ (w_lay j h)) (ht _ w_i1) h1 (fun a ha q => by omega), h2⟩⟩
    · exact ⟨0, fun q => absurd q h⟩
  obtain ⟨c20, k20, m20, a1, a2, a3⟩ := Cond.arrayClass_spec (ht _ w_arrI)
  obtain ⟨c21, k21, m21, b1, b2, b3⟩ := Cond.arrayClass_spec (ht _ w_arrZ)
  obtain ⟨m22, c22, k22, d1, d2, d3, d4⟩ := Cond.arrayOver_specA (ht _ w_aoA)
  obtain ⟨m23, c23, k23, e1, -, e2, e3, e4⟩ := Cond.arrayOver_spec (ht _ w_ao5)
  obtain ⟨m24, c24, k24, f1, -, f2, f3, f4⟩ := Cond.arrayOver_spec (ht _ w_ao6)
  refine ⟨(fun c => (Classical.choose (hk c)).1, fun c => (Classical.choose (hk c)).2), fun k => if k = 20 then c20 else if k = 21 then c21 else if k = 22 then c22 else if k = 23 then c23 else c24, fun j => Classical.choose (hst j), fun w hw => hts w (List.mem_filter.mp hw).1, ⟨fun c q hq => ?_, fun k q hq => ?_⟩, fun j hj => Classical.choose_spec (hst j) hj, Nat.le_refl _, va_AO.of (ht _ w_ao5), va_AO.of (ht _ w_ao6), (show va_Nw (.arrayOver (.array .int)) s from ht _ w_aoA), va_Nw.of rfl (ht _ w_mln)⟩
  · have hc : c < 9 := (List.getElem?_eq_some_iff.mp hq).1
    rw [cls_cl c hc] at hq
    cases hq
    exact Classical.choose_spec (hk c) hc
  · unfold tysOf at hq
    match k, hq with
    | 0, hq => cases hq; exact ⟨fun N z => ⟨(fun k h => by cases h), k20, a2, m20, a3⟩, a1⟩
    | 1, hq => cases hq; exact ⟨fun N z => ⟨(fun k h => by cases h), k21, b2, m21, b3⟩, b1⟩
    | 2, hq => cases hq; exact ⟨fun N z => ⟨(fun k h => by cases h), k22, d2, m22, d3⟩, d4⟩
    | 3, hq => cases hq; exact ⟨fun N z => ⟨(fun k h => by cases h), k23, e2, m23, e3⟩, k23, m23, e2, e3, e1, e4⟩
    | 4, hq => cases hq; exact ⟨fun N z => ⟨(fun k h => by cases h), k24, f2, m24, f3⟩, k24, m24, f2, f3, f1, f4⟩
    | k + 5, hq => simp at hq
