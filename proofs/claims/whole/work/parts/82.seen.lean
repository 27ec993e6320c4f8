def F178 (M M' : Mem) : Prop := ∀ (b : Nat) (j : Int), b ≠ 178 → M' b j = M b j
theorem just_cg {T : Tt} {f g : Nat → Int} {n : Int} (h : ∀ j : Nat, (j : Int) < n → f j = g j) : justF T f n ↔ justF T g n := by
  constructor
  · rintro ⟨h1, h2⟩
    exact ⟨h1, fun j hj => by rw [← h j (by omega)]; exact h2 j hj⟩
  · rintro ⟨h1, h2⟩
    exact ⟨h1, fun j hj => by rw [h j (by omega)]; exact h2 j hj⟩

set_option maxRecDepth 100000 in
theorem l_108 {d : Nat} {M0 : Mem} {Q : Option Vv → Mem → Prop} {K : Kt} {row i n : Int} (hrw : 0 ≤ row ∧ row < 8) (hin : 0 ≤ i ∧ 0 ≤ n ∧ n ≤ 16 ∧ i + n ≤ 40) (hpe : M0 20 7 = kPe K) (kb : ∀ M', F178 M0 M' → (∃ q : Nat, (q : Int) < n ∧ ¬ (0 ≤ M0 (3 + row.toNat) (i + q) ∧ M0 (3 + row.toNat) (i + q) < kPe K)) → Q (some (vI (-1000001))) M') (kx : ∀ (x4 x5 : Option Vv) M', F178 M0 M' → (∀ q : Nat, (q : Int) < n → M' 178 q = M0 (3 + row.toNat) (i + q) ∧ (0 ≤ M0 (3 + row.toNat) (i + q) ∧ M0 (3 + row.toNat) (i + q) < kPe K)) → Ok (d + 5) 108 118 [some (vR (some 0)), some (vI row), some (vI i), some (vI n), x4, x5] [] M' Q) : ∀ (f : Nat) (j : Int) (x5 : Option Vv) (M : Mem), (0 ≤ j ∧ j ≤ n) → (F178 M0 M) → (∀ q : Nat, (q : Int) < j → M 178 q = M0 (3 + row.toNat) (i + q) ∧ (0 ≤ M0 (3 + row.toNat) (i + q) ∧ M0 (3 + row.toNat) (i + q) < kPe K)) → (n - j).toNat < f → Ok (d + 5) 108 68 [some (vR (some 0)), some (vI row), some (vI i), some (vI n), some (vI j), x5] [] M Q := by
  intro f
  induction f with
  | zero => intro j x5 M hj hfr ha hf; exact absurd hf (Nat.not_lt_zero _)
  | succ f ih =>
    intro j x5 M hj hfr ha hf
    refine k_iload i_108_68 rfl ?_
    refine k_iload_n i_108_70 rfl ?_
    refine k_icmp_ge (t := 118) i_108_71 rfl (fun h71 => ?_) (fun h71 => ?_)
    · obtain rfl : j = n := by omega
      exact kx _ _ M hfr ha
    · refine k_aload_n i_108_74 rfl ?_
      refine k_getR (r := 1) i_108_75 o_108 rfl (by decide) (s_0) rfl ?_
      refine k_iload_n i_108_78 rfl ?_
      refine k_iload_n i_108_79 rfl ?_
      refine k_iload i_108_80 rfl ?_
      refine k_iadd i_108_82 (by omega) ?_
      refine k_invV (n := 2) (o' := 4) (av := [vR (some 1), vI row, vI (i + j)]) (rest := []) (el := [some (vR (some 1)), some (vI row), some (vI (i + j))]) i_108_83 o_108 rfl v_49 rfl (s_1) rfl rfl rfl rfl rfl ?_
      refine c_49 (by omega) (by omega) ?_
      show Ok _ 108 86 [some (vR (some 0)), some (vI row), some (vI i), some (vI n), some (vI j), x5] [vI (M (3 + row.toNat) (i + j))] (M) _
      refine k_istore (ls' := [some (vR (some 0)), some (vI row), some (vI i), some (vI n), some (vI j), some (vI (M (3 + row.toNat) (i + j)))]) i_108_86 rfl ?_
      refine k_aload_n i_108_88 rfl ?_
      refine k_iload i_108_89 rfl ?_
      refine k_invV (n := 1) (o' := 7) (av := [vR (some 0), vI (M (3 + row.toNat) (i + j))]) (rest := []) (el := [some (vR (some 0)), some (vI (M (3 + row.toNat) (i + j)))]) i_108_91 o_108 rfl v_118 rfl (s_0) rfl rfl rfl rfl rfl ?_
      refine c_118 (fun v91 hv91 => ?_)
      show Ok _ 108 94 [some (vR (some 0)), some (vI row), some (vI i), some (vI n), some (vI j), some (vI (M (3 + row.toNat) (i + j)))] [vI v91] (M) _
      refine k_if_ne (t := 100) i_108_94 rfl (fun h94 => ?_) (fun h94 => ?_)
      · refine k_aload_n i_108_100 rfl ?_
        refine k_getR (r := 177) i_108_101 o_108 rfl (by decide) (s_0) rfl ?_
        refine k_getR (r := 178) i_108_104 o_108 rfl (by decide) (s_177) rfl ?_
        refine k_iload i_108_107 rfl ?_
        refine k_iload i_108_109 rfl ?_
        refine k_iast i_108_111 (s_178) (by omega) ?_
        refine k_iinc (ls' := [some (vR (some 0)), some (vI row), some (vI i), some (vI n), some (vI (j + 1)), some (vI (M (3 + row.toNat) (i + j)))]) i_108_112 rfl (by omega) rfl ?_
        refine k_goto (t := 68) i_108_115 rfl ?_
        refine ih (j + 1) _ _ (by omega) (fun b q hb => (mu_ne hb q).trans (hfr b q hb)) (fun q hq => ?_) (by omega)
        by_cases e : (q : Int) = j
        · rw [e, mu_s, hfr _ _ (by omega)]
          rw [hfr _ _ (by omega), hfr _ _ (by decide)] at hv91
          exact ⟨rfl, by omega⟩
        · rw [mu_j e]
          exact ha q (by omega)
      · refine k_ldc (z := -1000001) i_108_97 o_108 rfl (by decide) ?_
        refine k_iret i_108_99 rfl ?_
        refine kb M hfr ⟨j.toNat, by omega, ?_⟩
        rw [show ((j.toNat : Nat) : Int) = j by omega]
        rw [hfr _ _ (by omega), hfr _ _ (by decide)] at hv91
        omega

set_option maxRecDepth 100000 in
theorem l_186a {d : Nat} {M : Mem} {Q : Option Vv → Mem → Prop} {K : Kt} {row i n : Int} {x6 : Option Vv} (hrw : 0 ≤ row ∧ row < 8) (hin : 0 ≤ i ∧ 0 ≤ n ∧ n ≤ 16 ∧ i + n ≤ 40) (hpe : M 274 229 = kPe K) (hpb : 0 ≤ kPe K ∧ kPe K ≤ 16) (kx : ∀ (rt : Int) (x5 : Option Vv), ((rt = 1 ∧ ∀ q : Nat, (q : Int) < n → (0 ≤ M 282 (40 * row + i + q) ∧ M 282 (40 * row + i + q) < kPe K)) ∨ (rt = 0 ∧ ∃ q : Nat, (q : Int) < n ∧ ¬ (0 ≤ M 282 (40 * row + i + q) ∧ M 282 (40 * row + i + q) < kPe K))) → Ok (d + 4) 186 124 [some (vR (some 273)), some (vI row), some (vI i), some (vI n), some (vI rt), x5, x6] [] M Q) : ∀ (f : Nat) (j : Int) (rt : Int), (0 ≤ j ∧ j ≤ n) → ((rt = 1 ∧ ∀ q : Nat, (q : Int) < j → (0 ≤ M 282 (40 * row + i + q) ∧ M 282 (40 * row + i + q) < kPe K)) ∨ (rt = 0 ∧ ∃ q : Nat, (q : Int) < j ∧ ¬ (0 ≤ M 282 (40 * row + i + q) ∧ M 282 (40 * row + i + q) < kPe K))) → (n - j).toNat < f → Ok (d + 4) 186 79 [some (vR (some 273)), some (vI row), some (vI i), some (vI n), some (vI rt), some (vI j), x6] [] M Q := by
  intro f
  induction f with
  | zero => intro j rt hj hr hf; exact absurd hf (Nat.not_lt_zero _)
  | succ f ih =>
    intro j rt hj hr hf
    refine k_iload i_186_79 rfl ?_
    refine k_iload_n i_186_81 rfl ?_
    refine k_icmp_ge (t := 124) i_186_82 rfl (fun h82 => ?_) (fun h82 => ?_)
    · obtain rfl : j = n := by omega
      exact kx _ _ hr
    · refine k_iload i_186_85 rfl ?_
      refine k_if_eq (t := 115) i_186_87 rfl (fun h87 => ?_) (fun h87 => ?_)
      · refine k_iconst i_186_115 (by decide) ?_
        refine k_istore (ls' := [some (vR (some 273)), some (vI row), some (vI i), some (vI n), some (vI 0), some (vI j), x6]) i_186_116 rfl ?_
        refine k_iinc (ls' := [some (vR (some 273)), some (vI row), some (vI i), some (vI n), some (vI 0), some (vI (j + 1)), x6]) i_186_118 rfl (by omega) rfl ?_
        refine k_goto (t := 79) i_186_121 rfl ?_
        refine ih (j + 1) 0 (by omega) (Or.inr ⟨rfl, ?_⟩) (by omega)
        rcases hr with z | z
        · first
            | omega
            | (refine ⟨j.toNat, by omega, ?_⟩
               rw [show ((j.toNat : Nat) : Int) = j by omega]
               omega)
        · obtain ⟨q, q1, q2⟩ := z.2
          exact ⟨q, by omega, q2⟩
      · refine k_aload_n i_186_90 rfl ?_
        refine k_aload_n i_186_91 rfl ?_
        refine k_getR (r := 282) i_186_92 o_186 rfl (by decide) (s_273) rfl ?_
        refine k_bipush i_186_95 (by decide) ?_
        refine k_iload_n i_186_97 rfl ?_
        refine k_imul i_186_98 (by omega) ?_
        refine k_iload_n i_186_99 rfl ?_
        refine k_iadd i_186_100 (by omega) ?_
        refine k_iload i_186_101 rfl ?_
        refine k_iadd i_186_103 (by omega) ?_
        refine k_iald i_186_104 (s_282) (by omega) ?_
        refine k_invV (n := 1) (o' := 8) (av := [vR (some 273), vI (M 282 (((40 * row) + i) + j))]) (rest := []) (el := [some (vR (some 273)), some (vI (M 282 (((40 * row) + i) + j)))]) i_186_105 o_186 rfl v_143 rfl (s_273) rfl rfl rfl rfl rfl ?_
        refine c_143 (by omega) (fun v105 hv105 => ?_)
        show Ok _ 186 108 [some (vR (some 273)), some (vI row), some (vI i), some (vI n), some (vI rt), some (vI j), x6] [vI v105] (M) _
        refine k_if_eq (t := 115) i_186_108 rfl (fun h108 => ?_) (fun h108 => ?_)
        · refine k_iconst i_186_115 (by decide) ?_
          refine k_istore (ls' := [some (vR (some 273)), some (vI row), some (vI i), some (vI n), some (vI 0), some (vI j), x6]) i_186_116 rfl ?_
          refine k_iinc (ls' := [some (vR (some 273)), some (vI row), some (vI i), some (vI n), some (vI 0), some (vI (j + 1)), x6]) i_186_118 rfl (by omega) rfl ?_
          refine k_goto (t := 79) i_186_121 rfl ?_
          refine ih (j + 1) 0 (by omega) (Or.inr ⟨rfl, ?_⟩) (by omega)
          rcases hr with z | z
          · first
              | omega
              | (refine ⟨j.toNat, by omega, ?_⟩
                 rw [show ((j.toNat : Nat) : Int) = j by omega]
                 omega)
          · obtain ⟨q, q1, q2⟩ := z.2
            exact ⟨q, by omega, q2⟩
        · refine k_iconst i_186_111 (by decide) ?_
          refine k_goto (t := 116) i_186_112 rfl ?_
          refine k_istore (ls' := [some (vR (some 273)), some (vI row), some (vI i), some (vI n), some (vI 1), some (vI j), x6]) i_186_116 rfl ?_
          refine k_iinc (ls' := [some (vR (some 273)), some (vI row), some (vI i), some (vI n), some (vI 1), some (vI (j + 1)), x6]) i_186_118 rfl (by omega) rfl ?_
          refine k_goto (t := 79) i_186_121 rfl ?_
          refine ih (j + 1) 1 (by omega) (Or.inl ⟨rfl, fun q hq => ?_⟩) (by omega)
          by_cases e : (q : Int) = j
          · rw [e]; omega
          · rcases hr with z | z
            · exact z.2 q (by omega)
            · omega

set_option maxRecDepth 100000 in
theorem l_186b {d : Nat} {M0 : Mem} {Q : Option Vv → Mem → Prop} {K : Kt} {T : Tt} {row i n rt : Int} (hKo : KOk K 0) (hK : RepKR M0 K 0) (hT : TOk K 0 T) (hmi : tMi T ≤ 2000) (hrw : 0 ≤ row ∧ row < 8) (hin : 0 ≤ i ∧ 0 ≤ n ∧ n ≤ 16 ∧ i + n ≤ 40) (kk : ∀ v M', Fst (fun t : Nat => justF (itF K t T) (fun j => M0 282 (40 * row + i + j)) n) 200 v → Wk M0 M' → Q (some (vI v)) (mu M' 273 6 0)) : ∀ (f : Nat) (t : Int) (x6 : Option Vv) (M : Mem), (0 ≤ t ∧ t ≤ 200) → (∀ j : Nat, (j : Int) < t → ¬ (fun t : Nat => justF (itF K t T) (fun j => M0 282 (40 * row + i + j)) n) j) → (RepR M K 0 (itF K t.toNat T)) → (OutR (cpn M0 274 278 232) M) → (200 - t).toNat < f → Ok (d + 4) 186 139 [some (vR (some 273)), some (vI row), some (vI i), some (vI n), some (vI rt), some (vI t), x6] [] M Q := by
  intro f
  induction f with
  | zero => intro t x6 M hi hj hR1 ho hf; exact absurd hf (Nat.not_lt_zero _)
  | succ f ih =>
    intro t x6 M hi hj hR1 ho hf
    have hKs : RepKR (cpn M0 274 278 232) K 0 := (Wk.st M0).k hK
    have hK1 := hKs.out hKo ho
    have hU := hT.it hKo t.toNat (by omega)
    have hmi2 := it_mi (K := K) t.toNat T
    have hW : (fun j : Nat => M 282 (40 * row + i + j)) = (fun j : Nat => M0 282 (40 * row + i + j)) := by
      funext j
      rw [ho _ _ (by omega) (by decide) (by decide)]
      exact if_neg (by omega)
    refine k_iload i_186_139 rfl ?_
    refine k_sipush i_186_141 (by decide) ?_
    refine k_icmp_ge (t := 168) i_186_144 rfl (fun h144 => ?_) (fun h144 => ?_)
    · refine k_aload_n i_186_168 rfl ?_
      refine k_iload_n i_186_169 rfl ?_
      refine k_iload_n i_186_170 rfl ?_
      refine k_iload_n i_186_171 rfl ?_
      refine k_invV (n := 3) (o' := 8) (av := [vR (some 273), vI row, vI i, vI n]) (rest := []) (el := [some (vR (some 273)), some (vI row), some (vI i), some (vI n), none, none]) i_186_172 o_186 rfl v_185 rfl (s_273) rfl rfl rfl rfl rfl ?_
      refine c_185 hKo hK1 hR1 hU (by omega) (by omega) (fun v172 hv172 => ?_)
      show Ok _ 186 175 [some (vR (some 273)), some (vI row), some (vI i), some (vI n), some (vI rt), some (vI t), x6] [vI v172] (M) _
      refine k_istore (ls' := [some (vR (some 273)), some (vI row), some (vI i), some (vI n), some (vI rt), some (vI t), some (vI v172)]) i_186_175 rfl ?_
      refine k_aload_n i_186_177 rfl ?_
      refine k_invV (n := 0) (o' := 8) (av := [vR (some 273)]) (rest := []) (el := [some (vR (some 273)), none]) i_186_178 o_186 rfl v_166 rfl (s_273) rfl rfl rfl rfl rfl ?_
      refine c_166 ?_
      show Ok _ 186 181 [some (vR (some 273)), some (vI row), some (vI i), some (vI n), some (vI rt), some (vI t), some (vI v172)] [] (cpn M 278 274 232) _
      refine k_aload_n i_186_181 rfl ?_
      refine k_iload i_186_182 rfl ?_
      refine k_if_eq (t := 192) i_186_184 rfl (fun h184 => ?_) (fun h184 => ?_)
      · refine k_ldc (z := -1000000) i_186_192 o_186 rfl (by decide) ?_
        refine k_invV (n := 1) (o' := 8) (av := [vR (some 273), vI (-1000000)]) (rest := []) (el := [some (vR (some 273)), some (vI (-1000000))]) i_186_194 o_186 rfl v_124 rfl (s_273) rfl rfl rfl rfl rfl ?_
        refine c_124 ?_
        show Ok _ 186 197 [some (vR (some 273)), some (vI row), some (vI i), some (vI n), some (vI rt), some (vI t), some (vI v172)] [vI (-1000000)] (mu (cpn M 278 274 232) 273 (6) (0)) _
        refine k_iret i_186_197 rfl ?_
        refine kk _ _ ?_ ((Wk.st M0).bk ho.w)
        rw [hW] at hv172
        refine Or.inr ⟨rfl, fun j hj2 => ?_⟩
        by_cases e : (j : Int) < t
        · exact hj j e
        · have hns : ¬ justF (itF K t.toNat T) (fun j => M0 282 (40 * row + i + j)) n := by
            rcases hv172 with q | q
            · omega
            · exact q.2
          first
            | (rw [show j = t.toNat by omega]; exact hns)
            | (exfalso
               rw [hW] at hv151
               rcases hv151 with q | q
               · exact hns q.2
               · omega)
      · refine k_iload i_186_187 rfl ?_
        refine k_goto (t := 194) i_186_189 rfl ?_
        refine k_invV (n := 1) (o' := 8) (av := [vR (some 273), vI t]) (rest := []) (el := [some (vR (some 273)), some (vI t)]) i_186_194 o_186 rfl v_124 rfl (s_273) rfl rfl rfl rfl rfl ?_
        refine c_124 ?_
        show Ok _ 186 197 [some (vR (some 273)), some (vI row), some (vI i), some (vI n), some (vI rt), some (vI t), some (vI v172)] [vI t] (mu (cpn M 278 274 232) 273 (6) (0)) _
        refine k_iret i_186_197 rfl ?_
        refine kk _ _ ?_ ((Wk.st M0).bk ho.w)
        rw [hW] at hv172
        refine Or.inl ⟨t.toNat, by omega, by omega, ?_, fun j hj2 => hj j (by omega)⟩
        rcases hv172 with q | q
        · exact q.2
        · omega
    · refine k_aload_n i_186_147 rfl ?_
      refine k_iload_n i_186_148 rfl ?_
      refine k_iload_n i_186_149 rfl ?_
      refine k_iload_n i_186_150 rfl ?_
      refine k_invV (n := 3) (o' := 8) (av := [vR (some 273), vI row, vI i, vI n]) (rest := []) (el := [some (vR (some 273)), some (vI row), some (vI i), some (vI n), none, none]) i_186_151 o_186 rfl v_185 rfl (s_273) rfl rfl rfl rfl rfl ?_
      refine c_185 hKo hK1 hR1 hU (by omega) (by omega) (fun v151 hv151 => ?_)
      show Ok _ 186 154 [some (vR (some 273)), some (vI row), some (vI i), some (vI n), some (vI rt), some (vI t), x6] [vI v151] (M) _
      refine k_if_ne (t := 168) i_186_154 rfl (fun h154 => ?_) (fun h154 => ?_)
      · refine k_aload_n i_186_168 rfl ?_
        refine k_iload_n i_186_169 rfl ?_
        refine k_iload_n i_186_170 rfl ?_
        refine k_iload_n i_186_171 rfl ?_
        refine k_invV (n := 3) (o' := 8) (av := [vR (some 273), vI row, vI i, vI n]) (rest := []) (el := [some (vR (some 273)), some (vI row), some (vI i), some (vI n), none, none]) i_186_172 o_186 rfl v_185 rfl (s_273) rfl rfl rfl rfl rfl ?_
        refine c_185 hKo hK1 hR1 hU (by omega) (by omega) (fun v172 hv172 => ?_)
        show Ok _ 186 175 [some (vR (some 273)), some (vI row), some (vI i), some (vI n), some (vI rt), some (vI t), x6] [vI v172] (M) _
        refine k_istore (ls' := [some (vR (some 273)), some (vI row), some (vI i), some (vI n), some (vI rt), some (vI t), some (vI v172)]) i_186_175 rfl ?_
        refine k_aload_n i_186_177 rfl ?_
        refine k_invV (n := 0) (o' := 8) (av := [vR (some 273)]) (rest := []) (el := [some (vR (some 273)), none]) i_186_178 o_186 rfl v_166 rfl (s_273) rfl rfl rfl rfl rfl ?_
        refine c_166 ?_
        show Ok _ 186 181 [some (vR (some 273)), some (vI row), some (vI i), some (vI n), some (vI rt), some (vI t), some (vI v172)] [] (cpn M 278 274 232) _
        refine k_aload_n i_186_181 rfl ?_
        refine k_iload i_186_182 rfl ?_
        refine k_if_eq (t := 192) i_186_184 rfl (fun h184 => ?_) (fun h184 => ?_)
        · refine k_ldc (z := -1000000) i_186_192 o_186 rfl (by decide) ?_
          refine k_invV (n := 1) (o' := 8) (av := [vR (some 273), vI (-1000000)]) (rest := []) (el := [some (vR (some 273)), some (vI (-1000000))]) i_186_194 o_186 rfl v_124 rfl (s_273) rfl rfl rfl rfl rfl ?_
          refine c_124 ?_
          show Ok _ 186 197 [some (vR (some 273)), some (vI row), some (vI i), some (vI n), some (vI rt), some (vI t), some (vI v172)] [vI (-1000000)] (mu (cpn M 278 274 232) 273 (6) (0)) _
          refine k_iret i_186_197 rfl ?_
          refine kk _ _ ?_ ((Wk.st M0).bk ho.w)
          rw [hW] at hv172
          refine Or.inr ⟨rfl, fun j hj2 => ?_⟩
          by_cases e : (j : Int) < t
          · exact hj j e
          · have hns : ¬ justF (itF K t.toNat T) (fun j => M0 282 (40 * row + i + j)) n := by
              rcases hv172 with q | q
              · omega
              · exact q.2
            first
              | (rw [show j = t.toNat by omega]; exact hns)
              | (exfalso
                 rw [hW] at hv151
                 rcases hv151 with q | q
                 · exact hns q.2
                 · omega)
        · refine k_iload i_186_187 rfl ?_
          refine k_goto (t := 194) i_186_189 rfl ?_
          refine k_invV (n := 1) (o' := 8) (av := [vR (some 273), vI t]) (rest := []) (el := [some (vR (some 273)), some (vI t)]) i_186_194 o_186 rfl v_124 rfl (s_273) rfl rfl rfl rfl rfl ?_
          refine c_124 ?_
          show Ok _ 186 197 [some (vR (some 273)), some (vI row), some (vI i), some (vI n), some (vI rt), some (vI t), some (vI v172)] [vI t] (mu (cpn M 278 274 232) 273 (6) (0)) _
          refine k_iret i_186_197 rfl ?_
          refine kk _ _ ?_ ((Wk.st M0).bk ho.w)
          rw [hW] at hv172
          refine Or.inl ⟨t.toNat, by omega, by omega, ?_, fun j hj2 => hj j (by omega)⟩
          rcases hv172 with q | q
          · exact q.2
          · omega
      · refine k_aload_n i_186_157 rfl ?_
        refine k_iconst i_186_158 (by decide) ?_
        refine k_invV (n := 1) (o' := 8) (av := [vR (some 273), vI 1]) (rest := []) (el := [some (vR (some 273)), some (vI 1), none]) i_186_159 o_186 rfl v_153 rfl (s_273) rfl rfl rfl rfl rfl ?_
        refine c_153 hKo hK1 hR1 hU (by omega) (fun M2 hR2 ho2 => ?_)
        show Ok _ 186 162 [some (vR (some 273)), some (vI row), some (vI i), some (vI n), some (vI rt), some (vI t), x6] [] (M2) _
        refine k_iinc (ls' := [some (vR (some 273)), some (vI row), some (vI i), some (vI n), some (vI rt), some (vI (t + 1)), x6]) i_186_162 rfl (by omega) rfl ?_
        refine k_goto (t := 139) i_186_165 rfl ?_
        refine ih (t + 1) _ M2 (by omega) (fun j hj2 => ?_) ?_ (ho.tr ho2) (by omega)
        · by_cases e : (j : Int) < t
          · exact hj j e
          · rw [show j = t.toNat by omega]
            rcases hv151 with q | q
            · omega
            · rw [hW] at q
              exact q.2
        · rw [show (t + 1).toNat = t.toNat + 1 by omega, it_s]
          exact hR2
