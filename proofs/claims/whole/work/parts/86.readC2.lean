/-- what is told so far, in the draft -/
def DR (M : Mem) (l : List Pn) : Prop := M 15 7 = l.length ∧ ∀ (i : Nat) (p : Pn), l[i]? = some p → M 16 i = p.1 ∧ M 17 i = p.2.1 ∧ M 18 i = p.2.2.1 ∧ M 19 i = p.2.2.2
theorem DR.fr {M M' : Mem} {l : List Pn} (h : DR M l) (h7 : M' 15 7 = M 15 7) (hf : ∀ (b : Nat) (j : Int), 16 ≤ b → b ≤ 19 → M' b j = M b j) : DR M' l := by
  refine ⟨h7.trans h.1, fun i p hi => ?_⟩
  rw [hf _ _ (by decide) (by decide), hf _ _ (by decide) (by decide), hf _ _ (by decide) (by decide), hf _ _ (by decide) (by decide)]
  exact h.2 i p hi
theorem DR.add {M : Mem} {l : List Pn} (h : DR M l) (x y z w : Int) : DR (mu (mu (mu (mu (mu M (15 + 1) (M 15 7) x) (15 + 2) (M 15 7) y) (15 + 3) (M 15 7) z) (15 + 4) (M 15 7) w) 15 7 (M 15 7 + 1)) (l ++ [(x, y, z, w)]) := by
  have h7 := h.1
  refine ⟨by rw [mu_s, h7, List.length_append]; rfl, fun i p hi => ?_⟩
  by_cases e : i < l.length
  · rw [List.getElem?_append_left e] at hi
    have q := h.2 i p hi
    have a : ∀ b : Nat, b ≠ 15 → (mu (mu (mu (mu (mu M (15 + 1) (M 15 7) x) (15 + 2) (M 15 7) y) (15 + 3) (M 15 7) z) (15 + 4) (M 15 7) w) 15 7 (M 15 7 + 1)) b i = M b i := fun b hb => (if_neg (by omega)).trans ((if_neg (by omega)).trans ((if_neg (by omega)).trans ((if_neg (by omega)).trans (if_neg (by omega)))))
    rw [a 16 (by decide), a 17 (by decide), a 18 (by decide), a 19 (by decide)]
    exact q
  · rw [List.getElem?_append_right (by omega)] at hi
    have e2 : i = l.length := by
      rcases Nat.lt_or_ge (i - l.length) 1 with q | q
      · omega
      · rw [List.getElem?_eq_none (by simpa using q)] at hi
        cases hi
    subst e2
    rw [Nat.sub_self] at hi
    obtain rfl : (x, y, z, w) = p := Option.some.inj hi
    rw [h7]
    refine ⟨?_, ?_, ?_, ?_⟩
    · exact (if_neg (by omega)).trans ((if_neg (by omega)).trans ((if_neg (by omega)).trans ((if_neg (by omega)).trans (if_pos ⟨rfl, rfl⟩))))
    · exact (if_neg (by omega)).trans ((if_neg (by omega)).trans ((if_neg (by omega)).trans (if_pos ⟨rfl, rfl⟩)))
    · exact (if_neg (by omega)).trans ((if_neg (by omega)).trans (if_pos ⟨rfl, rfl⟩))
    · exact (if_neg (by omega)).trans (if_pos ⟨rfl, rfl⟩)
def FR1 (M M' : Mem) : Prop := ∀ (b : Nat) (j : Int), ¬ (b = 13 ∧ (j = 2 ∨ j = 3)) → ¬ (16 ≤ b ∧ b ≤ 19) → ¬ (b = 15 ∧ (j = 6 ∨ j = 7)) → M' b j = M b j
def FR2 (M M' : Mem) : Prop := ∀ (b : Nat) (j : Int), ¬ (b = 13 ∧ (j = 2 ∨ j = 3)) → ¬ (16 ≤ b ∧ b ≤ 19) → ¬ (b = 15 ∧ j = 7) → M' b j = M b j
theorem wl_x {B : Int → Int} {k : Nat} {s : Sp} {l : List Pn} (h : ¬ (s.2 = 0 ∧ ¬ kdF (B s.1) = 0)) : wl B k s l = (s, l) := by
  cases k with
  | zero => exact if_neg h
  | succ k => exact if_neg h
theorem pl_x {B : Int → Int} {k : Nat} {s : Sp} {l : List Pn} (h : ¬ (s.2 = 0 ∧ B s.1 = 112)) : pl B k s l = (s, l) := by
  cases k with
  | zero => exact if_neg h
  | succ k => exact if_neg h

theorem RdC.off {M : Mem} {len : Int} {tp : Int → Int} {s : Sp} (h : RdC M len tp s) {b : Nat} {j v : Int} (h1 : b ≠ 13) (h2 : b ≠ 14) : RdC (mu M b j v) len tp s := by
  obtain ⟨r1, r2, r3, r4, r5, r6⟩ := h
  exact ⟨by rw [mu_ne (Ne.symm h1)]; exact r1, fun i i0 i1 => by rw [mu_ne (Ne.symm h2)]; exact r2 i i0 i1, by rw [mu_ne (Ne.symm h1)]; exact r3, by rw [mu_ne (Ne.symm h1)]; exact r4, r5, r6⟩

set_option maxRecDepth 100000 in
/-- ElbowQueue$Reader.readHead -/
theorem c_35 {d : Nat} {M : Mem} {Q : Option Vv → Mem → Prop} {len : Int} {tp : Int → Int} (h : RdC M len tp (0, 0)) (ht : TpB len tp) (kk : ∀ M', RdC M' len tp (rd4 (bt len tp)) → M' 15 4 = nuV (bt len tp) 3 (rd0 (bt len tp)) → M' 15 5 = nuV (bt len tp) 9 (rd2 (bt len tp)) → (∀ (b : Nat) (j : Int), ¬ (b = 13 ∧ (j = 2 ∨ j = 3)) → ¬ (b = 15 ∧ (j = 4 ∨ j = 5)) → M' b j = M b j) → Q none M') : Ok (d + 2) 35 0 [some (vR (some 13)), some (vR (some 15))] [] M Q := by
  refine k_aload_n i_35_0 rfl ?_
  refine k_bipush i_35_1 (by decide) ?_
  refine k_invV (n := 1) (o' := 3) (av := [vR (some 13), vI 113]) (rest := []) (el := [some (vR (some 13)), some (vI 113)]) i_35_3 o_35 rfl v_39 rfl (s_13) rfl rfl rfl rfl rfl ?_
  refine c_39 (c := 113) (s := (0, 0)) h (by decide) (fun M1 h1 f1 => ?_)
  show Ok _ 35 6 [some (vR (some 13)), some (vR (some 15))] [] (M1) _
  refine k_aload_n i_35_6 rfl ?_
  refine k_aload_n i_35_7 rfl ?_
  refine k_iconst i_35_8 (by decide) ?_
  refine k_invV (n := 1) (o' := 3) (av := [vR (some 13), vI 3]) (rest := [vR (some 15)]) (el := [some (vR (some 13)), some (vI 3), none, none]) i_35_9 o_35 rfl v_41 rfl (s_13) rfl rfl rfl rfl rfl ?_
  refine c_41 (m := 3) (s := (sgS (bt len tp) 113 (0, 0))) h1 (by decide) ht (fun M2 h2 f2 => ?_)
  show Ok _ 35 12 [some (vR (some 13)), some (vR (some 15))] [vI (nuV (bt len tp) 3 (sgS (bt len tp) 113 (0, 0))), vR (some 15)] (M2) _
  refine k_putI (kz := 4) i_35_12 o_35 rfl (by decide) (s_15) rfl ?_
  obtain ⟨M3, e3⟩ : ∃ z : Mem, z = mu M2 15 (4) (nuV (bt len tp) 3 (sgS (bt len tp) 113 (0, 0))) := ⟨_, rfl⟩
  rw [← e3]
  have h3 : RdC M3 len tp (nuS (bt len tp) 3 (sgS (bt len tp) 113 (0, 0))) := by rw [e3]; exact h2.off (by decide) (by decide)
  have f3 : ∀ (b : Nat) (q : Int), ¬ (b = 15 ∧ q = 4) → M3 b q = M2 b q := fun b q hb => by rw [e3]; exact if_neg hb
  have g3 : M3 15 4 = nuV (bt len tp) 3 (rd0 (bt len tp)) := by rw [e3, mu_s]; rfl
  refine k_aload_n i_35_15 rfl ?_
  refine k_bipush i_35_16 (by decide) ?_
  refine k_invV (n := 1) (o' := 3) (av := [vR (some 13), vI 44]) (rest := []) (el := [some (vR (some 13)), some (vI 44)]) i_35_18 o_35 rfl v_39 rfl (s_13) rfl rfl rfl rfl rfl ?_
  refine c_39 (c := 44) (s := (nuS (bt len tp) 3 (sgS (bt len tp) 113 (0, 0)))) h3 (by decide) (fun M4 h4 f4 => ?_)
  show Ok _ 35 21 [some (vR (some 13)), some (vR (some 15))] [] (M4) _
  refine k_aload_n i_35_21 rfl ?_
  refine k_aload_n i_35_22 rfl ?_
  refine k_bipush i_35_23 (by decide) ?_
  refine k_invV (n := 1) (o' := 3) (av := [vR (some 13), vI 9]) (rest := [vR (some 15)]) (el := [some (vR (some 13)), some (vI 9), none, none]) i_35_25 o_35 rfl v_41 rfl (s_13) rfl rfl rfl rfl rfl ?_
  refine c_41 (m := 9) (s := (sgS (bt len tp) 44 (nuS (bt len tp) 3 (sgS (bt len tp) 113 (0, 0))))) h4 (by decide) ht (fun M5 h5 f5 => ?_)
  show Ok _ 35 28 [some (vR (some 13)), some (vR (some 15))] [vI (nuV (bt len tp) 9 (sgS (bt len tp) 44 (nuS (bt len tp) 3 (sgS (bt len tp) 113 (0, 0))))), vR (some 15)] (M5) _
  refine k_putI (kz := 5) i_35_28 o_35 rfl (by decide) (s_15) rfl ?_
  obtain ⟨M6, e6⟩ : ∃ z : Mem, z = mu M5 15 (5) (nuV (bt len tp) 9 (sgS (bt len tp) 44 (nuS (bt len tp) 3 (sgS (bt len tp) 113 (0, 0))))) := ⟨_, rfl⟩
  rw [← e6]
  have h6 : RdC M6 len tp (nuS (bt len tp) 9 (sgS (bt len tp) 44 (nuS (bt len tp) 3 (sgS (bt len tp) 113 (0, 0))))) := by rw [e6]; exact h5.off (by decide) (by decide)
  have f6 : ∀ (b : Nat) (q : Int), ¬ (b = 15 ∧ q = 5) → M6 b q = M5 b q := fun b q hb => by rw [e6]; exact if_neg hb
  have g6 : M6 15 5 = nuV (bt len tp) 9 (rd2 (bt len tp)) := by rw [e6, mu_s]; rfl
  refine k_aload_n i_35_31 rfl ?_
  refine k_bipush i_35_32 (by decide) ?_
  refine k_invV (n := 1) (o' := 3) (av := [vR (some 13), vI 59]) (rest := []) (el := [some (vR (some 13)), some (vI 59)]) i_35_34 o_35 rfl v_39 rfl (s_13) rfl rfl rfl rfl rfl ?_
  refine c_39 (c := 59) (s := (nuS (bt len tp) 9 (sgS (bt len tp) 44 (nuS (bt len tp) 3 (sgS (bt len tp) 113 (0, 0)))))) h6 (by decide) (fun M7 h7 f7 => ?_)
  show Ok _ 35 37 [some (vR (some 13)), some (vR (some 15))] [] (M7) _
  refine k_vret i_35_37 rfl ?_
  refine kk M7 h7 ?_ ?_ (fun b j q0 q1 => ?_)
  · rw [f7 _ _ (by decide), f6 _ _ (by decide), f5 _ _ (by decide), f4 _ _ (by decide)]; exact g3
  · rw [f7 _ _ (by decide)]; exact g6
  · rw [f7 b j q0, f6 b j (by omega), f5 b j q0, f4 b j q0, f3 b j (by omega), f2 b j q0, f1 b j q0]

set_option maxRecDepth 100000 in
theorem l_36 {d : Nat} {M0 : Mem} {Q : Option Vv → Mem → Prop} {len : Int} {tp : Int → Int} {R : Sp × List Pn} (ht : TpB len tp) (kk : ∀ M', RdC M' len tp R.1 → DR M' R.2 → M' 15 6 = (R.2.length : Int) → FR1 M0 M' → Q none M') : ∀ (f : Nat) (n : Nat) (s : Sp) (l : List Pn) (x3 : Option Vv) (x4 : Option Vv) (x5 : Option Vv) (M : Mem), (n ≤ 8) → (RdC M len tp s) → (DR M l) → (l.length = n) → (wl (bt len tp) (8 - n) s l = R) → (FR1 M0 M) → (8 - n) < f → Ok (d + 2) 36 2 [some (vR (some 13)), some (vR (some 15)), some (vI ((n : Int))), x3, x4, x5] [] M Q := by
  intro f
  induction f with
  | zero => intro n s l x3 x4 x5 M hn h hd hl hR hfr hf; exact absurd hf (Nat.not_lt_zero _)
  | succ f ih =>
    intro n s l x3 x4 x5 M hn h hd hl hR hfr hf
    obtain ⟨r1, r2, r3, r4, r5, r6⟩ := id h
    obtain ⟨a1, a2, a3, a4⟩ := id r5
    have hd7 := hd.1
    refine k_iload_n i_36_2 rfl ?_
    refine k_bipush i_36_3 (by decide) ?_
    refine k_icmp_gt (t := 101) i_36_5 rfl (fun h5 => (by exfalso; omega)) (fun h5 => ?_)
    refine k_aload_n i_36_8 rfl ?_
    refine k_getI (kz := 3) i_36_9 o_36 rfl (by decide) (s_13) rfl ?_
    refine k_if_ne (t := 101) i_36_12 rfl (fun h12 => ?_) (fun h12 => ?_)
    · refine k_aload_n i_36_101 rfl ?_
      refine k_aload_n i_36_102 rfl ?_
      refine k_getI (kz := 7) i_36_103 o_36 rfl (by decide) (s_15) rfl ?_
      refine k_putI (kz := 6) i_36_106 o_36 rfl (by decide) (s_15) rfl ?_
      refine k_vret i_36_109 rfl ?_
      obtain rfl : (s, l) = R := by rw [← hR]; exact (wl_x (by omega)).symm
      exact kk _ (h.off (by decide) (by decide)) (hd.fr (mu_j (by decide)) (fun b j q0 q1 => mu_ne (by omega) _)) (by rw [mu_s]; exact hd.1) (fun b j q0 q1 q2 => (if_neg (by omega)).trans (hfr b j q0 q1 q2))
    · refine k_aload_n i_36_15 rfl ?_
      refine k_aload_n i_36_16 rfl ?_
      refine k_getI (kz := 2) i_36_17 o_36 rfl (by decide) (s_13) rfl ?_
      rw [r3]
      refine k_invV (n := 1) (o' := 3) (av := [vR (some 13), vI s.1]) (rest := []) (el := [some (vR (some 13)), some (vI s.1)]) i_36_20 o_36 rfl v_38 rfl (s_13) rfl rfl rfl rfl rfl ?_
      refine c_38 h (by omega) ?_
      show Ok _ 36 23 [some (vR (some 13)), some (vR (some 15)), some (vI ((n : Int))), x3, x4, x5] [vI (bt len tp (s.1))] (M) _
      refine k_invS (n := 1) (av := [vI (bt len tp (s.1))]) (rest := []) (el := [some (vI (bt len tp (s.1)))]) i_36_23 o_36 rfl v_43 rfl rfl rfl rfl rfl rfl ?_
      refine c_43 ?_
      show Ok _ 36 26 [some (vR (some 13)), some (vR (some 15)), some (vI ((n : Int))), x3, x4, x5] [vI (kdF (bt len tp (s.1)))] (M) _
      refine k_istore_n (ls' := [some (vR (some 13)), some (vR (some 15)), some (vI ((n : Int))), some (vI (kdF (bt len tp (s.1)))), x4, x5]) i_36_26 rfl ?_
      refine k_iload_n i_36_27 rfl ?_
      refine k_if_ne (t := 34) i_36_28 rfl (fun h28 => ?_) (fun h28 => ?_)
      · refine k_iload_n i_36_34 rfl ?_
        refine k_bipush i_36_35 (by decide) ?_
        refine k_icmp_ne (t := 48) i_36_37 rfl (fun h37 => ?_) (fun h37 => ?_)
        · refine k_aload_n i_36_48 rfl ?_
          refine k_dupR i_36_49 ?_
          refine k_getI (kz := 2) i_36_50 o_36 rfl (by decide) (s_13) rfl ?_
          rw [r3]
          refine k_iconst i_36_53 (by decide) ?_
          refine k_iadd i_36_54 (by omega) ?_
          refine k_putI (kz := 2) i_36_55 o_36 rfl (by decide) (s_13) rfl ?_
          have hk := kd_0 (c := bt len tp s.1) (by omega)
          have hb := bt_b (len := len) (tp := tp) (a := s.1) (by omega)
          obtain ⟨N0, eN0⟩ : ∃ z : Mem, z = mu M 13 (2) (s.1 + 1) := ⟨_, rfl⟩
          rw [← eN0]
          have hN0 : RdC N0 len tp (s.1 + 1, 0) := by
            have q := h.at (a := s.1 + 1) (by omega)
            rw [show s.2 = 0 by omega] at q
            rw [eN0]
            exact q
          have fN0 : F13 M N0 := by rw [eN0]; exact (F13.rf M).mu (by omega)
          refine k_aload_n i_36_58 rfl ?_
          refine k_bipush i_36_59 (by decide) ?_
          refine k_invV (n := 1) (o' := 3) (av := [vR (some 13), vI 99]) (rest := []) (el := [some (vR (some 13)), some (vI 99), none, none]) i_36_61 o_36 rfl v_41 rfl (s_13) rfl rfl rfl rfl rfl ?_
          refine c_41 (m := 99) (s := (s.1 + 1, 0)) hN0 (by decide) ht (fun M1 h1 f1 => ?_)
          show Ok _ 36 64 [some (vR (some 13)), some (vR (some 15)), some (vI ((n : Int))), some (vI (kdF (bt len tp (s.1)))), x4, x5] [vI (nuV (bt len tp) 99 (s.1 + 1, 0))] (M1) _
          refine k_istore (ls' := [some (vR (some 13)), some (vR (some 15)), some (vI ((n : Int))), some (vI (kdF (bt len tp (s.1)))), some (vI (nuV (bt len tp) 99 (s.1 + 1, 0))), x5]) i_36_64 rfl ?_
          refine k_aload_n i_36_66 rfl ?_
          refine k_bipush i_36_67 (by decide) ?_
          refine k_invV (n := 1) (o' := 3) (av := [vR (some 13), vI 44]) (rest := []) (el := [some (vR (some 13)), some (vI 44)]) i_36_69 o_36 rfl v_39 rfl (s_13) rfl rfl rfl rfl rfl ?_
          refine c_39 (c := 44) (s := (nuS (bt len tp) 99 (s.1 + 1, 0))) h1 (by decide) (fun M2 h2 f2 => ?_)
          show Ok _ 36 72 [some (vR (some 13)), some (vR (some 15)), some (vI ((n : Int))), some (vI (kdF (bt len tp (s.1)))), some (vI (nuV (bt len tp) 99 (s.1 + 1, 0))), x5] [] (M2) _
          refine k_aload_n i_36_72 rfl ?_
          refine k_iconst i_36_73 (by decide) ?_
          refine k_invV (n := 1) (o' := 3) (av := [vR (some 13), vI 3]) (rest := []) (el := [some (vR (some 13)), some (vI 3), none, none]) i_36_74 o_36 rfl v_41 rfl (s_13) rfl rfl rfl rfl rfl ?_
          refine c_41 (m := 3) (s := (sgS (bt len tp) 44 (nuS (bt len tp) 99 (s.1 + 1, 0)))) h2 (by decide) ht (fun M3 h3 f3 => ?_)
          show Ok _ 36 77 [some (vR (some 13)), some (vR (some 15)), some (vI ((n : Int))), some (vI (kdF (bt len tp (s.1)))), some (vI (nuV (bt len tp) 99 (s.1 + 1, 0))), x5] [vI (nuV (bt len tp) 3 (sgS (bt len tp) 44 (nuS (bt len tp) 99 (s.1 + 1, 0))))] (M3) _
          refine k_istore (ls' := [some (vR (some 13)), some (vR (some 15)), some (vI ((n : Int))), some (vI (kdF (bt len tp (s.1)))), some (vI (nuV (bt len tp) 99 (s.1 + 1, 0))), some (vI (nuV (bt len tp) 3 (sgS (bt len tp) 44 (nuS (bt len tp) 99 (s.1 + 1, 0)))))]) i_36_77 rfl ?_
          refine k_aload_n i_36_79 rfl ?_
          refine k_bipush i_36_80 (by decide) ?_
          refine k_invV (n := 1) (o' := 3) (av := [vR (some 13), vI 59]) (rest := []) (el := [some (vR (some 13)), some (vI 59)]) i_36_82 o_36 rfl v_39 rfl (s_13) rfl rfl rfl rfl rfl ?_
          refine c_39 (c := 59) (s := (nuS (bt len tp) 3 (sgS (bt len tp) 44 (nuS (bt len tp) 99 (s.1 + 1, 0))))) h3 (by decide) (fun M4 h4 f4 => ?_)
          show Ok _ 36 85 [some (vR (some 13)), some (vR (some 15)), some (vI ((n : Int))), some (vI (kdF (bt len tp (s.1)))), some (vI (nuV (bt len tp) 99 (s.1 + 1, 0))), some (vI (nuV (bt len tp) 3 (sgS (bt len tp) 44 (nuS (bt len tp) 99 (s.1 + 1, 0)))))] [] (M4) _
          refine k_aload_n i_36_85 rfl ?_
          refine k_iload_n i_36_86 rfl ?_
          refine k_iload i_36_87 rfl ?_
          refine k_iload i_36_89 rfl ?_
          refine k_iconst i_36_91 (by decide) ?_
          refine k_invV (n := 4) (o' := 5) (av := [vR (some 15), vI (kdF (bt len tp (s.1))), vI (nuV (bt len tp) 99 (s.1 + 1, 0)), vI (nuV (bt len tp) 3 (sgS (bt len tp) 44 (nuS (bt len tp) 99 (s.1 + 1, 0)))), vI 0]) (rest := []) (el := [some (vR (some 15)), some (vI (kdF (bt len tp (s.1)))), some (vI (nuV (bt len tp) 99 (s.1 + 1, 0))), some (vI (nuV (bt len tp) 3 (sgS (bt len tp) 44 (nuS (bt len tp) 99 (s.1 + 1, 0))))), some (vI 0)]) i_36_92 o_36 rfl v_58 rfl (s_15) rfl rfl rfl rfl rfl ?_
          have ff : F13 M M4 := fun b j q => by rw [f4 b j q, f3 b j q, f2 b j q, f1 b j q, fN0 b j q]
          have hd4 : DR M4 l := hd.fr (ff _ _ (by decide)) (fun b j q0 q1 => ff b j (by omega))
          have hd47 := hd4.1
          refine c_58 td_15 (by omega) ?_
          show Ok _ 36 95 [some (vR (some 13)), some (vR (some 15)), some (vI ((n : Int))), some (vI (kdF (bt len tp (s.1)))), some (vI (nuV (bt len tp) 99 (s.1 + 1, 0))), some (vI (nuV (bt len tp) 3 (sgS (bt len tp) 44 (nuS (bt len tp) 99 (s.1 + 1, 0)))))] [] (mu (mu (mu (mu (mu M4 (15 + 1) (M4 15 7) (kdF (bt len tp (s.1)))) (15 + 2) (M4 15 7) (nuV (bt len tp) 99 (s.1 + 1, 0))) (15 + 3) (M4 15 7) (nuV (bt len tp) 3 (sgS (bt len tp) 44 (nuS (bt len tp) 99 (s.1 + 1, 0))))) (15 + 4) (M4 15 7) (0)) 15 7 (M4 15 7 + 1)) _
          refine k_iinc (ls' := [some (vR (some 13)), some (vR (some 15)), some (vI ((n : Int) + 1)), some (vI (kdF (bt len tp (s.1)))), some (vI (nuV (bt len tp) 99 (s.1 + 1, 0))), some (vI (nuV (bt len tp) 3 (sgS (bt len tp) 44 (nuS (bt len tp) 99 (s.1 + 1, 0)))))]) i_36_95 rfl (by omega) rfl ?_
          refine k_goto (t := 2) i_36_98 rfl ?_
          rw [show (n : Int) + 1 = ((n + 1 : Nat) : Int) by omega]
          refine ih (n + 1) (wtS (bt len tp) s.1) (l ++ [wtP (bt len tp) s.1]) _ _ _ _ (by omega) ?_ (hd4.add _ _ _ _) (by rw [List.length_append, List.length_singleton]; omega) ?_ (fun b j q0 q1 q2 => ?_) (by omega)
          · exact ((((h4.off (by decide) (by decide)).off (by decide) (by decide)).off (by decide) (by decide)).off (by decide) (by decide)).off (by decide) (by decide)
          · rw [← hR, show 8 - n = (8 - (n + 1)) + 1 by omega]
            exact (if_pos ⟨by omega, by omega⟩).symm
          · refine (if_neg (by omega)).trans ((if_neg (by omega)).trans ((if_neg (by omega)).trans ((if_neg (by omega)).trans ((if_neg (by omega)).trans ?_))))
            rw [ff b j q0]
            exact hfr b j q0 q1 q2
        · refine k_aload_n i_36_40 rfl ?_
          refine k_iconst i_36_41 (by decide) ?_
          refine k_putI (kz := 3) i_36_42 o_36 rfl (by decide) (s_13) rfl ?_
          refine k_goto (t := 101) i_36_45 rfl ?_
          refine k_aload_n i_36_101 rfl ?_
          refine k_aload_n i_36_102 rfl ?_
          refine k_getI (kz := 7) i_36_103 o_36 rfl (by decide) (s_15) rfl ?_
          rw [mu_ne (M := M) (a := 13) (b := 15) (i := 3) (x := 3) (by omega)]
          refine k_putI (kz := 6) i_36_106 o_36 rfl (by decide) (s_15) rfl ?_
          refine k_vret i_36_109 rfl ?_
          obtain rfl : ((s.1, (3 : Int)), l) = R := by rw [← hR, show 8 - n = 0 by omega]; exact (if_pos ⟨by omega, by omega⟩).symm
          exact kk _ ((h.fa (by decide)).off (by decide) (by decide)) ((hd.fr (mu_ne (by decide) _) (fun b j q0 q1 => mu_ne (by omega) _)).fr (mu_j (by decide)) (fun b j q0 q1 => mu_ne (by omega) _)) (by rw [mu_s]; exact hd.1) (fun b j q0 q1 q2 => (if_neg (by omega)).trans ((if_neg (by omega)).trans (hfr b j q0 q1 q2)))
      · refine k_goto (t := 101) i_36_31 rfl ?_
        refine k_aload_n i_36_101 rfl ?_
        refine k_aload_n i_36_102 rfl ?_
        refine k_getI (kz := 7) i_36_103 o_36 rfl (by decide) (s_15) rfl ?_
        refine k_putI (kz := 6) i_36_106 o_36 rfl (by decide) (s_15) rfl ?_
        refine k_vret i_36_109 rfl ?_
        obtain rfl : (s, l) = R := by rw [← hR]; exact (wl_x (by omega)).symm
        exact kk _ (h.off (by decide) (by decide)) (hd.fr (mu_j (by decide)) (fun b j q0 q1 => mu_ne (by omega) _)) (by rw [mu_s]; exact hd.1) (fun b j q0 q1 q2 => (if_neg (by omega)).trans (hfr b j q0 q1 q2))

set_option maxRecDepth 100000 in
/-- ElbowQueue$Reader.readWaiters -/
theorem c_36 {d : Nat} {M : Mem} {Q : Option Vv → Mem → Prop} {len : Int} {tp : Int → Int} {s : Sp} (ht : TpB len tp) (h : RdC M len tp s) (hd : DR M []) (kk : ∀ M', RdC M' len tp (wl (bt len tp) 8 s []).1 → DR M' (wl (bt len tp) 8 s []).2 → M' 15 6 = ((wl (bt len tp) 8 s []).2.length : Int) → FR1 M M' → Q none M') : Ok (d + 2) 36 0 [some (vR (some 13)), some (vR (some 15)), none, none, none, none] [] M Q := by
  refine k_iconst i_36_0 (by decide) ?_
  refine k_istore_n (ls' := [some (vR (some 13)), some (vR (some 15)), some (vI 0), none, none, none]) i_36_1 rfl ?_
  exact l_36 (M0 := M) ht kk 9 0 s [] _ _ _ M (by decide) h hd rfl rfl (fun _ _ _ _ _ => rfl) (by decide)

set_option maxRecDepth 100000 in
theorem l_37 {d : Nat} {M0 : Mem} {Q : Option Vv → Mem → Prop} {len : Int} {tp : Int → Int} {R : Sp × List Pn} {w : Nat} (ht : TpB len tp) (hw : w ≤ 8) (kk : ∀ M', RdC M' len tp R.1 → DR M' R.2 → FR2 M0 M' → Q none M') : ∀ (f : Nat) (n : Nat) (s : Sp) (l : List Pn) (x3 : Option Vv) (x4 : Option Vv) (x5 : Option Vv) (x6 : Option Vv) (M : Mem), (n ≤ 8) → (RdC M len tp s) → (DR M l) → (l.length = w + n) → (pl (bt len tp) (8 - n) s l = R) → (FR2 M0 M) → (8 - n) < f → Ok (d + 2) 37 2 [some (vR (some 13)), some (vR (some 15)), some (vI ((n : Int))), x3, x4, x5, x6] [] M Q := by
  intro f
  induction f with
  | zero => intro n s l x3 x4 x5 x6 M hn h hd hl hR hfr hf; exact absurd hf (Nat.not_lt_zero _)
  | succ f ih =>
    intro n s l x3 x4 x5 x6 M hn h hd hl hR hfr hf
    obtain ⟨r1, r2, r3, r4, r5, r6⟩ := id h
    obtain ⟨a1, a2, a3, a4⟩ := id r5
    have hd7 := hd.1
    refine k_iload_n i_37_2 rfl ?_
    refine k_bipush i_37_3 (by decide) ?_
    refine k_icmp_gt (t := 118) i_37_5 rfl (fun h5 => (by exfalso; omega)) (fun h5 => ?_)
    refine k_aload_n i_37_8 rfl ?_
    refine k_getI (kz := 3) i_37_9 o_37 rfl (by decide) (s_13) rfl ?_
    refine k_if_ne (t := 118) i_37_12 rfl (fun h12 => ?_) (fun h12 => ?_)
    · refine k_vret i_37_118 rfl ?_
      obtain rfl : (s, l) = R := by rw [← hR]; exact (pl_x (by omega)).symm
      exact kk _ h hd (fun b j q0 q1 q2 => hfr b j q0 q1 q2)
    · refine k_aload_n i_37_15 rfl ?_
      refine k_aload_n i_37_16 rfl ?_
      refine k_getI (kz := 2) i_37_17 o_37 rfl (by decide) (s_13) rfl ?_
      rw [r3]
      refine k_invV (n := 1) (o' := 3) (av := [vR (some 13), vI s.1]) (rest := []) (el := [some (vR (some 13)), some (vI s.1)]) i_37_20 o_37 rfl v_38 rfl (s_13) rfl rfl rfl rfl rfl ?_
      refine c_38 h (by omega) ?_
      show Ok _ 37 23 [some (vR (some 13)), some (vR (some 15)), some (vI ((n : Int))), x3, x4, x5, x6] [vI (bt len tp (s.1))] (M) _
      refine k_bipush i_37_23 (by decide) ?_
      refine k_icmp_eq (t := 31) i_37_25 rfl (fun h25 => ?_) (fun h25 => ?_)
      · refine k_iload_n i_37_31 rfl ?_
        refine k_bipush i_37_32 (by decide) ?_
        refine k_icmp_ne (t := 45) i_37_34 rfl (fun h34 => ?_) (fun h34 => ?_)
        · refine k_aload_n i_37_45 rfl ?_
          refine k_dupR i_37_46 ?_
          refine k_getI (kz := 2) i_37_47 o_37 rfl (by decide) (s_13) rfl ?_
          rw [r3]
          refine k_iconst i_37_50 (by decide) ?_
          refine k_iadd i_37_51 (by omega) ?_
          refine k_putI (kz := 2) i_37_52 o_37 rfl (by decide) (s_13) rfl ?_
          have hk := show 98 ≤ bt len tp s.1 ∧ True from ⟨by omega, trivial⟩
          have hb := bt_b (len := len) (tp := tp) (a := s.1) (by omega)
          obtain ⟨N0, eN0⟩ : ∃ z : Mem, z = mu M 13 (2) (s.1 + 1) := ⟨_, rfl⟩
          rw [← eN0]
          have hN0 : RdC N0 len tp (s.1 + 1, 0) := by
            have q := h.at (a := s.1 + 1) (by omega)
            rw [show s.2 = 0 by omega] at q
            rw [eN0]
            exact q
          have fN0 : F13 M N0 := by rw [eN0]; exact (F13.rf M).mu (by omega)
          refine k_aload_n i_37_55 rfl ?_
          refine k_invV (n := 0) (o' := 3) (av := [vR (some 13)]) (rest := []) (el := [some (vR (some 13)), none]) i_37_56 o_37 rfl v_40 rfl (s_13) rfl rfl rfl rfl rfl ?_
          refine c_40 (s := (s.1 + 1, 0)) hN0 rfl (fun M1 h1 f1 => ?_)
          show Ok _ 37 59 [some (vR (some 13)), some (vR (some 15)), some (vI ((n : Int))), x3, x4, x5, x6] [vI (kdF ((bt len tp) (s.1 + 1, 0).1))] (M1) _
          refine k_istore_n (ls' := [some (vR (some 13)), some (vR (some 15)), some (vI ((n : Int))), some (vI (kdF ((bt len tp) (s.1 + 1, 0).1))), x4, x5, x6]) i_37_59 rfl ?_
          refine k_aload_n i_37_60 rfl ?_
          refine k_bipush i_37_61 (by decide) ?_
          refine k_invV (n := 1) (o' := 3) (av := [vR (some 13), vI 99]) (rest := []) (el := [some (vR (some 13)), some (vI 99), none, none]) i_37_63 o_37 rfl v_41 rfl (s_13) rfl rfl rfl rfl rfl ?_
          refine c_41 (m := 99) (s := (srS (bt len tp) (s.1 + 1, 0).1)) h1 (by decide) ht (fun M2 h2 f2 => ?_)
          show Ok _ 37 66 [some (vR (some 13)), some (vR (some 15)), some (vI ((n : Int))), some (vI (kdF ((bt len tp) (s.1 + 1, 0).1))), x4, x5, x6] [vI (nuV (bt len tp) 99 (srS (bt len tp) (s.1 + 1, 0).1))] (M2) _
          refine k_istore (ls' := [some (vR (some 13)), some (vR (some 15)), some (vI ((n : Int))), some (vI (kdF ((bt len tp) (s.1 + 1, 0).1))), some (vI (nuV (bt len tp) 99 (srS (bt len tp) (s.1 + 1, 0).1))), x5, x6]) i_37_66 rfl ?_
          refine k_aload_n i_37_68 rfl ?_
          refine k_bipush i_37_69 (by decide) ?_
          refine k_invV (n := 1) (o' := 3) (av := [vR (some 13), vI 44]) (rest := []) (el := [some (vR (some 13)), some (vI 44)]) i_37_71 o_37 rfl v_39 rfl (s_13) rfl rfl rfl rfl rfl ?_
          refine c_39 (c := 44) (s := (nuS (bt len tp) 99 (srS (bt len tp) (s.1 + 1, 0).1))) h2 (by decide) (fun M3 h3 f3 => ?_)
          show Ok _ 37 74 [some (vR (some 13)), some (vR (some 15)), some (vI ((n : Int))), some (vI (kdF ((bt len tp) (s.1 + 1, 0).1))), some (vI (nuV (bt len tp) 99 (srS (bt len tp) (s.1 + 1, 0).1))), x5, x6] [] (M3) _
          refine k_aload_n i_37_74 rfl ?_
          refine k_iconst i_37_75 (by decide) ?_
          refine k_invV (n := 1) (o' := 3) (av := [vR (some 13), vI 3]) (rest := []) (el := [some (vR (some 13)), some (vI 3), none, none]) i_37_76 o_37 rfl v_41 rfl (s_13) rfl rfl rfl rfl rfl ?_
          refine c_41 (m := 3) (s := (sgS (bt len tp) 44 (nuS (bt len tp) 99 (srS (bt len tp) (s.1 + 1, 0).1)))) h3 (by decide) ht (fun M4 h4 f4 => ?_)
          show Ok _ 37 79 [some (vR (some 13)), some (vR (some 15)), some (vI ((n : Int))), some (vI (kdF ((bt len tp) (s.1 + 1, 0).1))), some (vI (nuV (bt len tp) 99 (srS (bt len tp) (s.1 + 1, 0).1))), x5, x6] [vI (nuV (bt len tp) 3 (sgS (bt len tp) 44 (nuS (bt len tp) 99 (srS (bt len tp) (s.1 + 1, 0).1))))] (M4) _
          refine k_istore (ls' := [some (vR (some 13)), some (vR (some 15)), some (vI ((n : Int))), some (vI (kdF ((bt len tp) (s.1 + 1, 0).1))), some (vI (nuV (bt len tp) 99 (srS (bt len tp) (s.1 + 1, 0).1))), some (vI (nuV (bt len tp) 3 (sgS (bt len tp) 44 (nuS (bt len tp) 99 (srS (bt len tp) (s.1 + 1, 0).1))))), x6]) i_37_79 rfl ?_
          refine k_aload_n i_37_81 rfl ?_
          refine k_bipush i_37_82 (by decide) ?_
          refine k_invV (n := 1) (o' := 3) (av := [vR (some 13), vI 44]) (rest := []) (el := [some (vR (some 13)), some (vI 44)]) i_37_84 o_37 rfl v_39 rfl (s_13) rfl rfl rfl rfl rfl ?_
          refine c_39 (c := 44) (s := (nuS (bt len tp) 3 (sgS (bt len tp) 44 (nuS (bt len tp) 99 (srS (bt len tp) (s.1 + 1, 0).1))))) h4 (by decide) (fun M5 h5 f5 => ?_)
          show Ok _ 37 87 [some (vR (some 13)), some (vR (some 15)), some (vI ((n : Int))), some (vI (kdF ((bt len tp) (s.1 + 1, 0).1))), some (vI (nuV (bt len tp) 99 (srS (bt len tp) (s.1 + 1, 0).1))), some (vI (nuV (bt len tp) 3 (sgS (bt len tp) 44 (nuS (bt len tp) 99 (srS (bt len tp) (s.1 + 1, 0).1))))), x6] [] (M5) _
          refine k_aload_n i_37_87 rfl ?_
          refine k_bipush i_37_88 (by decide) ?_
          refine k_invV (n := 1) (o' := 3) (av := [vR (some 13), vI 16]) (rest := []) (el := [some (vR (some 13)), some (vI 16), none, none]) i_37_90 o_37 rfl v_41 rfl (s_13) rfl rfl rfl rfl rfl ?_
          refine c_41 (m := 16) (s := (sgS (bt len tp) 44 (nuS (bt len tp) 3 (sgS (bt len tp) 44 (nuS (bt len tp) 99 (srS (bt len tp) (s.1 + 1, 0).1)))))) h5 (by decide) ht (fun M6 h6 f6 => ?_)
          show Ok _ 37 93 [some (vR (some 13)), some (vR (some 15)), some (vI ((n : Int))), some (vI (kdF ((bt len tp) (s.1 + 1, 0).1))), some (vI (nuV (bt len tp) 99 (srS (bt len tp) (s.1 + 1, 0).1))), some (vI (nuV (bt len tp) 3 (sgS (bt len tp) 44 (nuS (bt len tp) 99 (srS (bt len tp) (s.1 + 1, 0).1))))), x6] [vI (nuV (bt len tp) 16 (sgS (bt len tp) 44 (nuS (bt len tp) 3 (sgS (bt len tp) 44 (nuS (bt len tp) 99 (srS (bt len tp) (s.1 + 1, 0).1))))))] (M6) _
          refine k_istore (ls' := [some (vR (some 13)), some (vR (some 15)), some (vI ((n : Int))), some (vI (kdF ((bt len tp) (s.1 + 1, 0).1))), some (vI (nuV (bt len tp) 99 (srS (bt len tp) (s.1 + 1, 0).1))), some (vI (nuV (bt len tp) 3 (sgS (bt len tp) 44 (nuS (bt len tp) 99 (srS (bt len tp) (s.1 + 1, 0).1))))), some (vI (nuV (bt len tp) 16 (sgS (bt len tp) 44 (nuS (bt len tp) 3 (sgS (bt len tp) 44 (nuS (bt len tp) 99 (srS (bt len tp) (s.1 + 1, 0).1)))))))]) i_37_93 rfl ?_
          refine k_aload_n i_37_95 rfl ?_
          refine k_bipush i_37_96 (by decide) ?_
          refine k_invV (n := 1) (o' := 3) (av := [vR (some 13), vI 59]) (rest := []) (el := [some (vR (some 13)), some (vI 59)]) i_37_98 o_37 rfl v_39 rfl (s_13) rfl rfl rfl rfl rfl ?_
          refine c_39 (c := 59) (s := (nuS (bt len tp) 16 (sgS (bt len tp) 44 (nuS (bt len tp) 3 (sgS (bt len tp) 44 (nuS (bt len tp) 99 (srS (bt len tp) (s.1 + 1, 0).1))))))) h6 (by decide) (fun M7 h7 f7 => ?_)
          show Ok _ 37 101 [some (vR (some 13)), some (vR (some 15)), some (vI ((n : Int))), some (vI (kdF ((bt len tp) (s.1 + 1, 0).1))), some (vI (nuV (bt len tp) 99 (srS (bt len tp) (s.1 + 1, 0).1))), some (vI (nuV (bt len tp) 3 (sgS (bt len tp) 44 (nuS (bt len tp) 99 (srS (bt len tp) (s.1 + 1, 0).1))))), some (vI (nuV (bt len tp) 16 (sgS (bt len tp) 44 (nuS (bt len tp) 3 (sgS (bt len tp) 44 (nuS (bt len tp) 99 (srS (bt len tp) (s.1 + 1, 0).1)))))))] [] (M7) _
          refine k_aload_n i_37_101 rfl ?_
          refine k_iload_n i_37_102 rfl ?_
          refine k_iload i_37_103 rfl ?_
          refine k_iload i_37_105 rfl ?_
          refine k_iload i_37_107 rfl ?_
          refine k_invV (n := 4) (o' := 5) (av := [vR (some 15), vI (kdF ((bt len tp) (s.1 + 1, 0).1)), vI (nuV (bt len tp) 99 (srS (bt len tp) (s.1 + 1, 0).1)), vI (nuV (bt len tp) 3 (sgS (bt len tp) 44 (nuS (bt len tp) 99 (srS (bt len tp) (s.1 + 1, 0).1)))), vI (nuV (bt len tp) 16 (sgS (bt len tp) 44 (nuS (bt len tp) 3 (sgS (bt len tp) 44 (nuS (bt len tp) 99 (srS (bt len tp) (s.1 + 1, 0).1))))))]) (rest := []) (el := [some (vR (some 15)), some (vI (kdF ((bt len tp) (s.1 + 1, 0).1))), some (vI (nuV (bt len tp) 99 (srS (bt len tp) (s.1 + 1, 0).1))), some (vI (nuV (bt len tp) 3 (sgS (bt len tp) 44 (nuS (bt len tp) 99 (srS (bt len tp) (s.1 + 1, 0).1))))), some (vI (nuV (bt len tp) 16 (sgS (bt len tp) 44 (nuS (bt len tp) 3 (sgS (bt len tp) 44 (nuS (bt len tp) 99 (srS (bt len tp) (s.1 + 1, 0).1)))))))]) i_37_109 o_37 rfl v_58 rfl (s_15) rfl rfl rfl rfl rfl ?_
          have ff : F13 M M7 := fun b j q => by rw [f7 b j q, f6 b j q, f5 b j q, f4 b j q, f3 b j q, f2 b j q, f1 b j q, fN0 b j q]
          have hd4 : DR M7 l := hd.fr (ff _ _ (by decide)) (fun b j q0 q1 => ff b j (by omega))
          have hd47 := hd4.1
          refine c_58 td_15 (by omega) ?_
          show Ok _ 37 112 [some (vR (some 13)), some (vR (some 15)), some (vI ((n : Int))), some (vI (kdF ((bt len tp) (s.1 + 1, 0).1))), some (vI (nuV (bt len tp) 99 (srS (bt len tp) (s.1 + 1, 0).1))), some (vI (nuV (bt len tp) 3 (sgS (bt len tp) 44 (nuS (bt len tp) 99 (srS (bt len tp) (s.1 + 1, 0).1))))), some (vI (nuV (bt len tp) 16 (sgS (bt len tp) 44 (nuS (bt len tp) 3 (sgS (bt len tp) 44 (nuS (bt len tp) 99 (srS (bt len tp) (s.1 + 1, 0).1)))))))] [] (mu (mu (mu (mu (mu M7 (15 + 1) (M7 15 7) (kdF ((bt len tp) (s.1 + 1, 0).1))) (15 + 2) (M7 15 7) (nuV (bt len tp) 99 (srS (bt len tp) (s.1 + 1, 0).1))) (15 + 3) (M7 15 7) (nuV (bt len tp) 3 (sgS (bt len tp) 44 (nuS (bt len tp) 99 (srS (bt len tp) (s.1 + 1, 0).1))))) (15 + 4) (M7 15 7) (nuV (bt len tp) 16 (sgS (bt len tp) 44 (nuS (bt len tp) 3 (sgS (bt len tp) 44 (nuS (bt len tp) 99 (srS (bt len tp) (s.1 + 1, 0).1))))))) 15 7 (M7 15 7 + 1)) _
          refine k_iinc (ls' := [some (vR (some 13)), some (vR (some 15)), some (vI ((n : Int) + 1)), some (vI (kdF ((bt len tp) (s.1 + 1, 0).1))), some (vI (nuV (bt len tp) 99 (srS (bt len tp) (s.1 + 1, 0).1))), some (vI (nuV (bt len tp) 3 (sgS (bt len tp) 44 (nuS (bt len tp) 99 (srS (bt len tp) (s.1 + 1, 0).1))))), some (vI (nuV (bt len tp) 16 (sgS (bt len tp) 44 (nuS (bt len tp) 3 (sgS (bt len tp) 44 (nuS (bt len tp) 99 (srS (bt len tp) (s.1 + 1, 0).1)))))))]) i_37_112 rfl (by omega) rfl ?_
          refine k_goto (t := 2) i_37_115 rfl ?_
          rw [show (n : Int) + 1 = ((n + 1 : Nat) : Int) by omega]
          refine ih (n + 1) (psS (bt len tp) s.1) (l ++ [psP (bt len tp) s.1]) _ _ _ _ _ (by omega) ?_ (hd4.add _ _ _ _) (by rw [List.length_append, List.length_singleton]; omega) ?_ (fun b j q0 q1 q2 => ?_) (by omega)
          · exact ((((h7.off (by decide) (by decide)).off (by decide) (by decide)).off (by decide) (by decide)).off (by decide) (by decide)).off (by decide) (by decide)
          · rw [← hR, show 8 - n = (8 - (n + 1)) + 1 by omega]
            exact (if_pos ⟨by omega, by omega⟩).symm
          · refine (if_neg (by omega)).trans ((if_neg (by omega)).trans ((if_neg (by omega)).trans ((if_neg (by omega)).trans ((if_neg (by omega)).trans ?_))))
            rw [ff b j q0]
            exact hfr b j q0 q1 q2
        · refine k_aload_n i_37_37 rfl ?_
          refine k_iconst i_37_38 (by decide) ?_
          refine k_putI (kz := 3) i_37_39 o_37 rfl (by decide) (s_13) rfl ?_
          refine k_goto (t := 118) i_37_42 rfl ?_
          refine k_vret i_37_118 rfl ?_
          obtain rfl : ((s.1, (3 : Int)), l) = R := by rw [← hR, show 8 - n = 0 by omega]; exact (if_pos ⟨by omega, by omega⟩).symm
          exact kk _ (h.fa (by decide)) (hd.fr (mu_ne (by decide) _) (fun b j q0 q1 => mu_ne (by omega) _)) (fun b j q0 q1 q2 => (if_neg (by omega)).trans (hfr b j q0 q1 q2))
      · refine k_goto (t := 118) i_37_28 rfl ?_
        refine k_vret i_37_118 rfl ?_
        obtain rfl : (s, l) = R := by rw [← hR]; exact (pl_x (by omega)).symm
        exact kk _ h hd (fun b j q0 q1 q2 => hfr b j q0 q1 q2)

set_option maxRecDepth 100000 in
/-- ElbowQueue$Reader.readPassers -/
theorem c_37 {d : Nat} {M : Mem} {Q : Option Vv → Mem → Prop} {len : Int} {tp : Int → Int} {s : Sp} {l : List Pn} (ht : TpB len tp) (h : RdC M len tp s) (hd : DR M l) (hl : l.length ≤ 8) (kk : ∀ M', RdC M' len tp (pl (bt len tp) 8 s l).1 → DR M' (pl (bt len tp) 8 s l).2 → FR2 M M' → Q none M') : Ok (d + 2) 37 0 [some (vR (some 13)), some (vR (some 15)), none, none, none, none, none] [] M Q := by
  refine k_iconst i_37_0 (by decide) ?_
  refine k_istore_n (ls' := [some (vR (some 13)), some (vR (some 15)), some (vI 0), none, none, none, none]) i_37_1 rfl ?_
  exact l_37 (M0 := M) (w := l.length) ht hl kk 9 0 s l _ _ _ _ M (by decide) h hd rfl rfl (fun _ _ _ _ _ => rfl) (by decide)
