/-! the town that was read -/
def pD : Pn := (1, 0, 0, 0)
def mkK (l : List Pn) (w : Int) : Kt := (fun p => if p < 16 then (l.getD p.toNat pD).1 else 1, fun p => if p < 16 then (l.getD p.toNat pD).2.1 else 99, fun p => (l.getD p.toNat pD).2.2.2, (l.length : Int), w)
def mkB (l : List Pn) (p : Int) : Int := (l.getD p.toNat pD).2.2.1
def PnOk (p : Pn) : Prop := 1 ≤ p.1 ∧ p.1 ≤ 5 ∧ 0 ≤ p.2.1 ∧ p.2.1 ≤ 99 ∧ 0 ≤ p.2.2.1 ∧ p.2.2.1 ≤ 3
theorem pn_at {l : List Pn} {p : Int} (h0 : 0 ≤ p) (h1 : p < (l.length : Int)) : l[p.toNat]? = some (l.getD p.toNat pD) := by
  rw [List.getD_eq_getElem?_getD, List.getElem?_eq_getElem (by omega)]
  rfl
theorem wl_ok {len : Int} {tp : Int → Int} (k : Nat) : ∀ (s : Sp) (l : List Pn), (∀ p ∈ l, PnOk p) → ∀ p ∈ (wl (bt len tp) k s l).2, PnOk p := by
  induction k with
  | zero =>
    intro s l h
    unfold wl
    split <;> exact h
  | succ k ih =>
    intro s l h
    unfold wl
    split
    · rename_i q
      refine ih _ _ (fun p hp => ?_)
      rcases List.mem_append.mp hp with z | z
      · exact h p z
      · rw [List.mem_singleton.mp z]
        have k1 := kd_b (bt len tp s.1)
        have n1 := nv_b (len := len) (tp := tp) (m := 99) (s := (s.1 + 1, 0)) (by decide)
        have n2 := nv_b (len := len) (tp := tp) (m := 3) (s := sgS (bt len tp) 44 (nuS (bt len tp) 99 (s.1 + 1, 0))) (by decide)
        exact ⟨by show 1 ≤ kdF _; omega, k1.2, n1.1, n1.2, n2.1, n2.2⟩
    · exact h
theorem pl_0 {B : Int → Int} {k : Nat} {s : Sp} {l : List Pn} (h : (pl B k s l).1.2 = 0) : s.2 = 0 := Decidable.byContradiction (fun q => q (by rw [pl_x (fun z => q z.1)] at h; exact h))
theorem pl_ok {len : Int} {tp : Int → Int} (k : Nat) : ∀ (s : Sp) (l : List Pn), (pl (bt len tp) k s l).1.2 = 0 → (∀ p ∈ l, PnOk p) → ∀ p ∈ (pl (bt len tp) k s l).2, PnOk p := by
  induction k with
  | zero =>
    intro s l _ h
    unfold pl
    split <;> exact h
  | succ k ih =>
    intro s l h0 h
    by_cases q : s.2 = 0 ∧ bt len tp s.1 = 112
    · have e : pl (bt len tp) (k + 1) s l = pl (bt len tp) k (psS (bt len tp) s.1) (l ++ [psP (bt len tp) s.1]) := if_pos q
      rw [e] at h0 ⊢
      refine ih _ _ h0 (fun p hp => ?_)
      rcases List.mem_append.mp hp with z | z
      · exact h p z
      · rw [List.mem_singleton.mp z]
        have z1 : (onS (bt len tp) (srS (bt len tp) (s.1 + 1))).2 = 0 := sg_0 (nu_0 (sg_0 (pl_0 h0)))
        have z2 : (srS (bt len tp) (s.1 + 1)).2 = 0 := nu_0 (sg_0 (nu_0 z1))
        have z3 : ¬ kdF (bt len tp (s.1 + 1)) = 0 := fun z => by
          unfold srS at z2
          rw [if_pos z] at z2
          exact absurd (show (1 : Int) = 0 from z2) (by decide)
        have k1 := kd_b (bt len tp (s.1 + 1))
        have n1 := nv_b (len := len) (tp := tp) (m := 99) (s := srS (bt len tp) (s.1 + 1)) (by decide)
        have n2 := nv_b (len := len) (tp := tp) (m := 3) (s := sgS (bt len tp) 44 (nuS (bt len tp) 99 (srS (bt len tp) (s.1 + 1)))) (by decide)
        exact ⟨by show 1 ≤ kdF _; omega, k1.2, n1.1, n1.2, n2.1, n2.2⟩
    · rw [pl_x q]
      exact h
theorem fi_02 {len : Int} {s : Sp} (h : (fiS len s).2 = 0) : s.2 = 0 := by
  unfold fiS at h
  split at h
  · exact absurd (show (1 : Int) = 0 from h) (by decide)
  · exact h
theorem fi_at {len : Int} {s : Sp} : (fiS len s).1 = s.1 := by
  unfold fiS
  split <;> rfl
theorem fi_b {len : Int} {tp : Int → Int} : True := trivial
theorem mkK_e (l : List Pn) (w : Int) : Elb (mkK l w) := fun p h0 _ => ⟨if_neg (by omega), if_neg (by omega)⟩
theorem mkK_ok {l : List Pn} {w : Int} (hl : (l.length : Int) ≤ w + 8) (hw : 0 ≤ w ∧ w ≤ 8 ∧ w ≤ l.length) (h : ∀ p ∈ l, PnOk p) : KOk (mkK l w) 0 := by
  refine ⟨⟨by show (0 : Int) ≤ l.length; omega, by show (l.length : Int) ≤ 16; omega, hw.1, hw.2.1, hw.2.2, by show (l.length : Int) - w ≤ 8; omega, by decide, by decide⟩, fun p hp => ?_⟩
  have hp2 : (0 ≤ p ∧ p < (l.length : Int)) ∨ (16 ≤ p ∧ p < 16 + 0) := hp
  have q := h _ (List.mem_of_getElem? (pn_at (l := l) (p := p) (by omega) (by omega)))
  have e1 : kKd (mkK l w) p = (l.getD p.toNat pD).1 := if_pos (by omega)
  have e2 : kPa (mkK l w) p = (l.getD p.toNat pD).2.1 := if_pos (by omega)
  rw [e1, e2]
  exact ⟨q.1, q.2.1, q.2.2.1, q.2.2.2.1⟩
theorem DR.k {M : Mem} {l : List Pn} {w : Int} (h : DR M l) (h6 : M 15 6 = w) (hl : (l.length : Int) ≤ 16) : RepK M 15 (mkK l w) 0 := by
  refine ⟨h.1, h6, fun p hp => ?_⟩
  have hp2 : (0 ≤ p ∧ p < (l.length : Int)) ∨ (16 ≤ p ∧ p < 16 + 0) := hp
  have q := h.2 p.toNat _ (pn_at (l := l) (p := p) (by omega) (by omega))
  rw [show ((p.toNat : Nat) : Int) = p by omega] at q
  have e1 : kKd (mkK l w) p = (l.getD p.toNat pD).1 := if_pos (by omega)
  have e2 : kPa (mkK l w) p = (l.getD p.toNat pD).2.1 := if_pos (by omega)
  rw [e1, e2]
  exact ⟨q.1, q.2.1, fun _ => q.2.2.2⟩
theorem NXF.rep {M P : Mem} {l : List Pn} {w ca se : Int} (h : NXF M l w) (hl : (l.length : Int) ≤ 16) (hw : 0 ≤ w ∧ w ≤ 8) (h143 : M 285 143 = ca) (h144 : M 285 144 = se) (hP : ∀ j : Int, 0 ≤ j → j < 232 → P 274 j = M 285 j) : RepKR P (mkK l w) 0 ∧ RepR P (mkK l w) 0 (begF (mkK l w) (mkB l) ca se) ∧ P 274 231 = 1 := by
  obtain ⟨⟨a1, a2, a3, a4, a5, a6, a7, a8⟩, b1, b2⟩ := h
  have key : ∀ p : Int, Va (mkK l w) 0 p → 0 ≤ p ∧ p < (l.length : Int) := fun p hp => by
    have hp2 : (0 ≤ p ∧ p < (l.length : Int)) ∨ (16 ≤ p ∧ p < 16 + 0) := hp
    omega
  refine ⟨⟨?_, ?_, fun p hp => ?_⟩, ⟨?_, ?_, ?_, ?_, ?_, fun i p hi => ?_, fun p hp => ?_⟩, ?_⟩
  · rw [hP _ (by omega) (by omega)]; exact a1
  · rw [hP _ (by omega) (by omega)]; exact a2
  · have kp := key p hp
    have q := a7 p.toNat _ (pn_at (l := l) (p := p) kp.1 kp.2)
    rw [show ((p.toNat : Nat) : Int) = p by omega] at q
    have e1 : kKd (mkK l w) p = (l.getD p.toNat pD).1 := if_pos (by omega)
    have e2 : kPa (mkK l w) p = (l.getD p.toNat pD).2.1 := if_pos (by omega)
    rw [e1, e2, hP _ (by omega) (by omega), hP _ (by omega) (by omega), hP _ (by omega) (by omega)]
    exact ⟨q.1, q.2.1, fun _ => q.2.2.2.2.1⟩
  · rw [hP _ (by omega) (by omega)]; exact a4
  · rw [hP _ (by omega) (by omega)]; exact h143
  · rw [hP _ (by omega) (by omega)]; exact h144
  · rw [hP _ (by omega) (by omega), a3]
    show w = (((List.range w.toNat).map (fun n : Nat => (n : Int))).length : Int)
    rw [List.length_map, List.length_range]
    omega
  · rw [hP _ (by omega) (by omega)]; exact b1
  · have hi2 : ((List.range w.toNat).map (fun n : Nat => (n : Int)))[i]? = some p := hi
    have hi3 := (List.getElem?_eq_some_iff.mp hi2).1
    rw [List.length_map, List.length_range] at hi3
    rw [List.getElem?_map, List.getElem?_range hi3] at hi2
    obtain rfl : (i : Int) = p := Option.some.inj hi2
    rw [hP _ (by omega) (by omega)]
    exact a8 i (by omega) (by omega)
  · have kp := key p hp
    have q := a7 p.toNat _ (pn_at (l := l) (p := p) kp.1 kp.2)
    rw [show ((p.toNat : Nat) : Int) = p by omega] at q
    rw [hP _ (by omega) (by omega), hP _ (by omega) (by omega), hP _ (by omega) (by omega), hP _ (by omega) (by omega)]
    exact ⟨q.2.2.1, q.2.2.2.2.2, a5 p kp.1 (by omega), q.2.2.2.1⟩
  · rw [hP _ (by omega) (by omega)]; exact b2
theorem ImR.fr3 {M M' : Mem} {k : Nat} (hk : k ≤ 1) (h : ImR M k) (he : ∀ (b : Nat) (j : Int), (250 ≤ b ∧ b ≤ 272) ∨ b = 275 ∨ b = 276 → M' b j = M b j) (h11 : M' 0 11 = 1) : ImR M' k := by
  obtain ⟨h1, h2⟩ := h
  unfold ImR
  rw [he 250 _ (by omega), he 276 _ (by omega), he 275 _ (by omega), h11]
  refine ⟨h1, h2.imp id (fun q => ⟨q.1, rfl, ?_⟩)⟩
  obtain ⟨K, T, p1, p2, p3, p4, p5, p6, p7, p8⟩ := q.2.2
  exact ⟨K, T, p1, p2, p3, p4.fr (fun b j b0 b1 => he b j (by omega)), p5.fr (fun b j b0 b1 => he b j (by omega)), p6.fr (fun j => he 275 _ (by omega)), p7.off (fun j => he 275 _ (by omega)), p8⟩
/-- a town is read -/
theorem Rel.new {M P : Mem} {K : Kt} {T : Tt} {L : List Tt} (h : Rel M) (hf : ∀ (b : Nat) (j : Int), ¬ (15 ≤ b ∧ b ≤ 176) → b ≠ 13 → b ≠ 274 → b ≠ 285 → ¬ (b = 0 ∧ j = 11) → ¬ (b = 273 ∧ (j = 4 ∨ j = 13 ∨ j = 15 ∨ j = 16)) → P b j = M b j) (hw : TwR P K T L) (h11 : P 0 11 = 1) (h13 : P 13 1 = 0) (h273 : P 273 13 = 0) : Rel P := by
  obtain ⟨a1, a2, a3, a4, -, ⟨a6, a7⟩, a8⟩ := h
  exact ⟨a1.fr (fun b j hb => hf b j (by omega) (by omega) (by omega) (by omega) (by omega) (by omega)), a2.fr (hf _ _ (by omega) (by omega) (by omega) (by omega) (by omega) (by omega)) (hf _ _ (by omega) (by omega) (by omega) (by omega) (by omega) (by omega)), a3.fr (hf _ _ (by omega) (by omega) (by omega) (by omega) (by omega) (by omega)) (hf _ _ (by omega) (by omega) (by omega) (by omega) (by omega) (by omega)), ⟨by omega, by omega, by omega, fun i i0 i1 => by omega⟩, ⟨K, T, L, hw⟩, ⟨a6.fr3 (by decide) (fun b j hb => hf b j (by omega) (by omega) (by omega) (by omega) (by omega) (by omega)) h11, a7.fr3 (by decide) (fun b j hb => hf b j (by omega) (by omega) (by omega) (by omega) (by omega) (by omega)) h11⟩, a8.fr (fun j => hf _ _ (by omega) (by omega) (by omega) (by omega) (by omega) (by omega)) (fun j => hf _ _ (by omega) (by omega) (by omega) (by omega) (by omega) (by omega)) (hf _ _ (by omega) (by omega) (by omega) (by omega) (by omega) (by omega)) (fun j => hf _ _ (by omega) (by omega) (by omega) (by omega) (by omega) (by omega))⟩
/-- a fault -/
theorem Rel.fau {M P : Mem} (h : Rel M) (hf : ∀ (b : Nat) (j : Int), ¬ (15 ≤ b ∧ b ≤ 19) → b ≠ 13 → b ≠ 285 → ¬ (b = 0 ∧ j = 12) → ¬ (b = 273 ∧ (j = 13 ∨ j = 14 ∨ j = 15 ∨ j = 16)) → P b j = M b j) (h12 : P 0 12 = P 273 14) (h13 : P 13 1 = 0) (h273 : P 273 13 = 0) : Rel P := by
  obtain ⟨a1, a2, a3, a4, ⟨K, T, L, a5⟩, ⟨a6, a7⟩, a8⟩ := h
  exact ⟨a1.fr (fun b j hb => hf b j (by omega) (by omega) (by omega) (by omega) (by omega)), a2.fr (hf _ _ (by omega) (by omega) (by omega) (by omega) (by omega)) (hf _ _ (by omega) (by omega) (by omega) (by omega) (by omega)), h12, ⟨by omega, by omega, by omega, fun i i0 i1 => by omega⟩, ⟨K, T, L, a5.fr (fun b j hb => hf b j (by omega) (by omega) (by omega) (by omega) (by omega)) (hf _ _ (by omega) (by omega) (by omega) (by omega) (by omega)) (hf _ _ (by omega) (by omega) (by omega) (by omega) (by omega))⟩, ⟨a6.fr (by decide) (fun b j hb => hf b j (by omega) (by omega) (by omega) (by omega) (by omega)), a7.fr (by decide) (fun b j hb => hf b j (by omega) (by omega) (by omega) (by omega) (by omega))⟩, a8.fr (fun j => hf _ _ (by omega) (by omega) (by omega) (by omega) (by omega)) (fun j => hf _ _ (by omega) (by omega) (by omega) (by omega) (by omega)) (hf _ _ (by omega) (by omega) (by omega) (by omega) (by omega)) (fun j => hf _ _ (by omega) (by omega) (by omega) (by omega) (by omega))⟩
def cpt (M : Mem) (n : Int) : Mem := cpn M 285 274 n

set_option maxRecDepth 100000 in
theorem l_140 {d : Nat} {M : Mem} {Q : Option Vv → Mem → Prop} {x1 : Int}  (kk : Q (some (vI (M 285 229))) (mu (cpn M 285 274 232) 273 4 0)) : ∀ (f : Nat) (i : Int), (0 ≤ i ∧ i ≤ 232) → (232 - i).toNat < f → Ok (d + 6) 140 29 [some (vR (some 273)), some (vI x1), some (vI i)] [] (cpn M 285 274 i) Q := by
  intro f
  induction f with
  | zero => intro i hi hf; exact absurd hf (Nat.not_lt_zero _)
  | succ f ih =>
    intro i hi hf
    refine k_iload_n i_140_29 rfl ?_
    refine k_sipush i_140_30 (by decide) ?_
    refine k_icmp_ge (t := 54) i_140_33 rfl (fun h33 => ?_) (fun h33 => ?_)
    · refine k_aload_n i_140_54 rfl ?_
      refine k_iconst i_140_55 (by decide) ?_
      refine k_putI (kz := 4) i_140_56 o_140 rfl (by decide) (s_273) rfl ?_
      refine k_aload_n i_140_59 rfl ?_
      refine k_invV (n := 0) (o' := 8) (av := [vR (some 273)]) (rest := []) (el := [some (vR (some 273))]) i_140_60 o_140 rfl v_142 rfl (s_273) rfl rfl rfl rfl rfl ?_
      refine c_142 ?_
      show Ok _ 140 63 [some (vR (some 273)), some (vI x1), some (vI i)] [vI ((mu (cpn M 285 274 i) 273 (4) (0)) 274 229)] (mu (cpn M 285 274 i) 273 (4) (0)) _
      refine k_iret i_140_63 rfl ?_
      obtain rfl : i = 232 := by omega
      have e : mu (cpn M 285 274 232) 273 4 0 274 229 = M 285 229 := by rw [mu_ne (by decide)]; exact if_pos ⟨rfl, by decide, by decide⟩
      rw [e]
      exact kk
    · refine k_aload_n i_140_36 rfl ?_
      refine k_getR (r := 274) i_140_37 o_140 rfl (by decide) (s_273) rfl ?_
      refine k_iload_n i_140_40 rfl ?_
      refine k_aload_n i_140_41 rfl ?_
      refine k_getR (r := 285) i_140_42 o_140 rfl (by decide) (s_273) rfl ?_
      refine k_iload_n i_140_45 rfl ?_
      refine k_iald i_140_46 (s_285) (by omega) ?_
      refine k_iast i_140_47 (s_274) (by omega) ?_
      refine k_iinc (ls' := [some (vR (some 273)), some (vI x1), some (vI (i + 1))]) i_140_48 rfl (by omega) rfl ?_
      refine k_goto (t := 29) i_140_51 rfl ?_
      rw [cpn_s (by decide) (by omega)]
      exact ih (i + 1) (by omega) (by omega)
