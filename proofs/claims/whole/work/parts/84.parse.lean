/-! THE READER, as functions of the tape -/
def bt (len : Int) (tp : Int → Int) (i : Int) : Int := if i < len then tp i else -1
abbrev fig (c : Int) : Prop := 48 ≤ c ∧ c ≤ 57
def figN (B : Int → Int) (a : Int) : Int := if fig (B a) then (if fig (B (a + 1)) then (if fig (B (a + 2)) then 3 else 2) else 1) else 0
def valN (B : Int → Int) (a : Int) : Int := if fig (B (a + 1)) then 10 * (B a - 48) + (B (a + 1) - 48) else B a - 48
/-- place, fault -/
abbrev Sp : Type := Int × Int
def sgS (B : Int → Int) (c : Int) (s : Sp) : Sp := if s.2 = 0 then (if B s.1 = c then (s.1 + 1, 0) else (s.1, 1)) else s
def nuS (B : Int → Int) (m : Int) (s : Sp) : Sp := if s.2 = 0 then (if figN B s.1 = 0 ∨ figN B s.1 = 3 then (s.1, 1) else if m < valN B s.1 then (s.1, 2) else (s.1 + figN B s.1, 0)) else s
def nuV (B : Int → Int) (m : Int) (s : Sp) : Int := if s.2 = 0 ∧ (nuS B m s).2 = 0 then valN B s.1 else 0
def kdF (c : Int) : Int := if c = 98 then 1 else if c = 119 then 2 else if c = 115 then 3 else if c = 102 then 4 else if c = 100 then 5 else 0
/-- kind, patience, belief, need -/
abbrev Pn : Type := Int × Int × Int × Int
def srS (B : Int → Int) (a : Int) : Sp := if kdF (B a) = 0 then (a, 1) else (a + 1, 0)
/-- behind the kind: patience, belief -/
def onS (B : Int → Int) (s : Sp) : Sp := nuS B 3 (sgS B 44 (nuS B 99 s))
def wtS (B : Int → Int) (a : Int) : Sp := sgS B 59 (onS B (a + 1, 0))
def wtP (B : Int → Int) (a : Int) : Pn := (kdF (B a), nuV B 99 (a + 1, 0), nuV B 3 (sgS B 44 (nuS B 99 (a + 1, 0))), 0)
def psS (B : Int → Int) (a : Int) : Sp := sgS B 59 (nuS B 16 (sgS B 44 (onS B (srS B (a + 1)))))
def psP (B : Int → Int) (a : Int) : Pn := (kdF (B (a + 1)), nuV B 99 (srS B (a + 1)), nuV B 3 (sgS B 44 (nuS B 99 (srS B (a + 1)))), nuV B 16 (sgS B 44 (onS B (srS B (a + 1)))))
def wl (B : Int → Int) : Nat → Sp → List Pn → Sp × List Pn
  | 0, s, l => if s.2 = 0 ∧ ¬ kdF (B s.1) = 0 then ((s.1, 3), l) else (s, l)
  | k + 1, s, l => if s.2 = 0 ∧ ¬ kdF (B s.1) = 0 then wl B k (wtS B s.1) (l ++ [wtP B s.1]) else (s, l)
def pl (B : Int → Int) : Nat → Sp → List Pn → Sp × List Pn
  | 0, s, l => if s.2 = 0 ∧ B s.1 = 112 then ((s.1, 3), l) else (s, l)
  | k + 1, s, l => if s.2 = 0 ∧ B s.1 = 112 then pl B k (psS B s.1) (l ++ [psP B s.1]) else (s, l)
def fiS (len : Int) (s : Sp) : Sp := if s.2 = 0 ∧ s.1 < len then (s.1, 1) else s
def rd0 (B : Int → Int) : Sp := sgS B 113 (0, 0)
def rd2 (B : Int → Int) : Sp := sgS B 44 (nuS B 3 (rd0 B))
def rd4 (B : Int → Int) : Sp := sgS B 59 (nuS B 9 (rd2 B))
/-! places stay in the tape -/
def AtB (len : Int) (s : Sp) : Prop := 0 ≤ s.1 ∧ s.1 ≤ len ∧ 0 ≤ s.2 ∧ s.2 ≤ 3
theorem AtB.m {len a f : Int} (h1 : 0 ≤ a) (h2 : a ≤ len) (h3 : 0 ≤ f ∧ f ≤ 3) : AtB len (a, f) := ⟨h1, h2, h3.1, h3.2⟩
theorem bt_b {len : Int} {tp : Int → Int} {a : Int} (h : 0 ≤ bt len tp a) : a < len := by
  unfold bt at h
  split at h
  · assumption
  · omega
theorem sg_b {len : Int} {tp : Int → Int} {c : Int} {s : Sp} (hc : 0 ≤ c) (h : AtB len s) : AtB len (sgS (bt len tp) c s) := by
  obtain ⟨h1, h2, h3, h4⟩ := id h
  unfold sgS
  split
  · split
    · rename_i q
      have := bt_b (len := len) (tp := tp) (a := s.1) (by omega)
      exact AtB.m (by omega) (by omega) (by decide)
    · exact AtB.m h1 h2 (by decide)
  · exact h
theorem nu_b {len : Int} {tp : Int → Int} {m : Int} {s : Sp} (h : AtB len s) : AtB len (nuS (bt len tp) m s) := by
  obtain ⟨h1, h2, h3, h4⟩ := id h
  unfold nuS
  split
  · split
    · exact AtB.m h1 h2 (by decide)
    · split
      · exact AtB.m h1 h2 (by decide)
      · rename_i q1 q2
        have e : 0 ≤ figN (bt len tp) s.1 ∧ s.1 + figN (bt len tp) s.1 ≤ len := by
          unfold figN at q1 ⊢
          by_cases f0 : fig (bt len tp s.1)
          · have := bt_b (len := len) (tp := tp) (a := s.1) (by omega)
            rw [if_pos f0] at q1 ⊢
            by_cases f1 : fig (bt len tp (s.1 + 1))
            · have := bt_b (len := len) (tp := tp) (a := s.1 + 1) (by omega)
              rw [if_pos f1] at q1 ⊢
              by_cases f2 : fig (bt len tp (s.1 + 2))
              · rw [if_pos f2] at q1; omega
              · rw [if_neg f2]; omega
            · rw [if_neg f1]; omega
          · rw [if_neg f0] at q1; omega
        exact AtB.m (by omega) (by omega) (by decide)
  · exact h
theorem on_b {len : Int} {tp : Int → Int} {s : Sp} (h : AtB len s) : AtB len (onS (bt len tp) s) := nu_b (sg_b (by decide) (nu_b h))
theorem kd_0 {c : Int} (h : ¬ kdF c = 0) : 98 ≤ c ∧ c ≠ 112 := by
  unfold kdF at h
  repeat' split at h
  all_goals omega
theorem kd_b (c : Int) : 0 ≤ kdF c ∧ kdF c ≤ 5 := by
  unfold kdF
  repeat' split
  all_goals omega
theorem sr_b {len : Int} {tp : Int → Int} {a : Int} (h : 0 ≤ a ∧ a ≤ len) : AtB len (srS (bt len tp) a) := by
  unfold srS
  split
  · exact AtB.m h.1 h.2 (by decide)
  · rename_i q
    have := kd_0 q
    have := bt_b (len := len) (tp := tp) (a := a) (by omega)
    exact AtB.m (by omega) (by omega) (by decide)
theorem wt_b {len : Int} {tp : Int → Int} {a : Int} (h : 0 ≤ a ∧ a < len) : AtB len (wtS (bt len tp) a) := sg_b (by decide) (on_b (AtB.m (by omega) (by omega) (by decide)))
theorem ps_b {len : Int} {tp : Int → Int} {a : Int} (h : 0 ≤ a ∧ a < len) : AtB len (psS (bt len tp) a) := sg_b (by decide) (nu_b (sg_b (by decide) (on_b (sr_b (by omega)))))
/-! from a fault on nothing is read -/
theorem sg_f {B : Int → Int} {c : Int} {s : Sp} (h : ¬ s.2 = 0) : sgS B c s = s := if_neg h
theorem nu_f {B : Int → Int} {m : Int} {s : Sp} (h : ¬ s.2 = 0) : nuS B m s = s := if_neg h
theorem sg_0 {B : Int → Int} {c : Int} {s : Sp} (h : (sgS B c s).2 = 0) : s.2 = 0 := Decidable.byContradiction (fun q => q (by rw [sg_f q] at h; exact h))
theorem nu_0 {B : Int → Int} {m : Int} {s : Sp} (h : (nuS B m s).2 = 0) : s.2 = 0 := Decidable.byContradiction (fun q => q (by rw [nu_f q] at h; exact h))
theorem nv_b {len : Int} {tp : Int → Int} {m : Int} {s : Sp} (hm : 0 ≤ m) : 0 ≤ nuV (bt len tp) m s ∧ nuV (bt len tp) m s ≤ m := by
  unfold nuV
  by_cases q : s.2 = 0 ∧ (nuS (bt len tp) m s).2 = 0
  · rw [if_pos q]
    have e := q.2
    unfold nuS at e
    rw [if_pos q.1] at e
    by_cases e1 : figN (bt len tp) s.1 = 0 ∨ figN (bt len tp) s.1 = 3
    · rw [if_pos e1] at e; exact absurd (show (1 : Int) = 0 from e) (by decide)
    · rw [if_neg e1] at e
      by_cases e2 : m < valN (bt len tp) s.1
      · rw [if_pos e2] at e; exact absurd (show (2 : Int) = 0 from e) (by decide)
      · refine ⟨?_, by omega⟩
        unfold figN at e1
        by_cases f0 : fig (bt len tp s.1)
        · unfold valN
          split <;> omega
        · rw [if_neg f0] at e1; omega
  · rw [if_neg q]; omega
/-! the class's reader -/
def RdC (M : Mem) (len : Int) (tp : Int → Int) (s : Sp) : Prop := M 13 1 = len ∧ (∀ i : Int, 0 ≤ i → i < len → M 14 i = tp i) ∧ M 13 2 = s.1 ∧ M 13 3 = s.2 ∧ AtB len s ∧ len ≤ 160
def TpB (len : Int) (tp : Int → Int) : Prop := ∀ i : Int, 0 ≤ i → i < len → 0 ≤ tp i ∧ tp i ≤ 255
def F13 (M M' : Mem) : Prop := ∀ (b : Nat) (j : Int), ¬ (b = 13 ∧ (j = 2 ∨ j = 3)) → M' b j = M b j
theorem F13.rf (M : Mem) : F13 M M := fun _ _ _ => rfl
theorem F13.tr {M M1 M2 : Mem} (h : F13 M M1) (h2 : F13 M1 M2) : F13 M M2 := fun b j q => (h2 b j q).trans (h b j q)
theorem F13.mu {M M1 : Mem} {j v : Int} (h : F13 M M1) (hj : j = 2 ∨ j = 3) : F13 M (mu M1 13 j v) := fun b i q => (if_neg (by omega)).trans (h b i q)
theorem RdC.at {M : Mem} {len : Int} {tp : Int → Int} {s : Sp} (h : RdC M len tp s) {a : Int} (ha : 0 ≤ a ∧ a ≤ len) : RdC (mu M 13 2 a) len tp (a, s.2) := by
  obtain ⟨r1, r2, r3, r4, r5, r6⟩ := h
  exact ⟨by rw [mu_j (by decide)]; exact r1, fun i i0 i1 => by rw [mu_ne (by decide)]; exact r2 i i0 i1, mu_s _ _ _ _, by rw [mu_j (by decide)]; exact r4, ⟨ha.1, ha.2, r5.2.2⟩, r6⟩
theorem RdC.fa {M : Mem} {len : Int} {tp : Int → Int} {s : Sp} (h : RdC M len tp s) {f : Int} (hf : 0 ≤ f ∧ f ≤ 3) : RdC (mu M 13 3 f) len tp (s.1, f) := by
  obtain ⟨r1, r2, r3, r4, r5, r6⟩ := h
  exact ⟨by rw [mu_j (by decide)]; exact r1, fun i i0 i1 => by rw [mu_ne (by decide)]; exact r2 i i0 i1, by rw [mu_j (by decide)]; exact r3, mu_s _ _ _ _, ⟨r5.1, r5.2.1, hf⟩, r6⟩
theorem bt_r {len : Int} {tp : Int → Int} (ht : TpB len tp) {i : Int} (hi : 0 ≤ i) : -1 ≤ bt len tp i ∧ bt len tp i ≤ 255 := by
  unfold bt
  split
  · have := ht i hi (by assumption)
    omega
  · omega
