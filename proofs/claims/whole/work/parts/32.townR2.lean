def olderP (T : Tt) (k : Nat) : Tt := mkT (tQ T) (tW T) (fun p => if (tQ T).idxOf p < k then tS T p + 1 else tS T p) (tB T) (tO T) (tMi T) (tCa T) (tSe T) (tNx T)
theorem older_s {T : Tt} (hn : (tQ T).Nodup) {k : Nat} (hk : k < (tQ T).length) : olderP T (k + 1) = mkT (tQ T) (tW T) (up (tS (olderP T k)) ((tQ T).getD k 0) (tS T ((tQ T).getD k 0) + 1)) (tB T) (tO T) (tMi T) (tCa T) (tSe T) (tNx T) := by
  have e : (fun p => if (tQ T).idxOf p < k + 1 then tS T p + 1 else tS T p) = up (tS (olderP T k)) ((tQ T).getD k 0) (tS T ((tQ T).getD k 0) + 1) := by
    funext p
    by_cases hp : p = (tQ T).getD k 0
    · rw [hp, up_s, if_pos (by rw [q_idx hn hk]; omega)]
    · rw [up_n _ _ hp]
      show _ = if (tQ T).idxOf p < k then tS T p + 1 else tS T p
      have e3 : (tQ T).idxOf p < k + 1 ↔ (tQ T).idxOf p < k := ⟨fun q => ((idx_s hn hk p).mp q).resolve_right hp, fun q => by omega⟩
      simp only [e3]
  unfold olderP
  rw [e]
  rfl
theorem older_e {T : Tt} : olderP T (tQ T).length = olderF T := by
  have e : (fun p => if (tQ T).idxOf p < (tQ T).length then tS T p + 1 else tS T p) = (fun p => if p ∈ tQ T then tS T p + 1 else tS T p) := by
    funext p
    have e3 : (tQ T).idxOf p < (tQ T).length ↔ p ∈ tQ T := List.idxOf_lt_length_iff
    simp only [e3]
  unfold olderP olderF
  rw [e]
theorem older_0 {T : Tt} : olderP T 0 = T := by
  have e : (fun p => if (tQ T).idxOf p < 0 then tS T p + 1 else tS T p) = tS T := by
    funext p
    exact if_neg (Nat.not_lt_zero _)
  unfold olderP
  rw [e]
  rfl
def leaveP (K : Kt) (U : Tt) (c : Bool) (j : Nat) : Tt := mkT ((tQ U).take j ++ ((tQ U).drop j).filter (stays K U c)) (leaveW K U c j (tQ U).length) (tS U) (tB U) (tO U) (tMi U) (tCa U) (tSe U) (tNx U)
theorem drop_s {l : List Int} {k : Nat} (h : k < l.length) : l.drop k = l.getD k 0 :: l.drop (k + 1) := by
  rw [List.drop_eq_getElem_cons h]
  congr 1
  rw [List.getD_eq_getElem?_getD, List.getElem?_eq_getElem h]
  rfl
theorem idx_d {l : List Int} (hn : l.Nodup) {k : Nat} (h : k < l.length) (p : Int) (hp : p ≠ l.getD k 0) (hl : l.idxOf p < l.length) : k ≤ l.idxOf p ↔ k + 1 ≤ l.idxOf p := by
  constructor
  · intro q
    rcases Nat.lt_or_ge k (l.idxOf p) with z | z
    · exact z
    · have e : l.idxOf p = k := by omega
      exact absurd (by rw [← e, q_get (List.idxOf_lt_length_iff.mp hl)]) hp
  · intro q; omega
theorem leaveP_stay {K : Kt} {U : Tt} {c : Bool} (hn : (tQ U).Nodup) {k : Nat} (hk : k < (tQ U).length) (hs : stays K U c ((tQ U).getD k 0) = true) : leaveP K U c k = leaveP K U c (k + 1) := by
  have e1 : (tQ U).take k ++ ((tQ U).drop k).filter (stays K U c) = (tQ U).take (k + 1) ++ ((tQ U).drop (k + 1)).filter (stays K U c) := by
    rw [drop_s hk, take_s hk, List.filter_cons_of_pos hs, List.append_assoc]
    rfl
  have e2 : leaveW K U c k (tQ U).length = leaveW K U c (k + 1) (tQ U).length := by
    funext p
    unfold leaveW
    by_cases hp : p = (tQ U).getD k 0
    · rw [hp, if_neg (fun q => by have := q.2.2; rw [hs] at this; cases this), if_neg (fun q => by have := q.2.2; rw [hs] at this; cases this)]
    · by_cases hl : (tQ U).idxOf p < (tQ U).length
      · have e3 := idx_d hn hk p hp hl
        simp only [e3]
      · rw [if_neg (fun q => hl q.2.1), if_neg (fun q => hl q.2.1)]
  unfold leaveP
  rw [e1, e2]
theorem leaveP_go {K : Kt} {U : Tt} {c : Bool} (hn : (tQ U).Nodup) {k : Nat} (hk : k < (tQ U).length) (hs : stays K U c ((tQ U).getD k 0) = false) :
    leaveP K U c k = eraF (mkT (tQ (leaveP K U c (k + 1))) (up (tW (leaveP K U c (k + 1))) ((tQ U).getD k 0) 3) (tS U) (tB U) (tO U) (tMi U) (tCa U) (tSe U) (tNx U)) k := by
  have e1 : (tQ U).take k ++ ((tQ U).drop k).filter (stays K U c) = ((tQ U).take (k + 1) ++ ((tQ U).drop (k + 1)).filter (stays K U c)).eraseIdx k := by
    rw [drop_s hk, take_s hk, List.filter_cons_of_neg (by rw [hs]; decide), List.append_assoc, List.eraseIdx_append_of_length_le (by rw [List.length_take]; omega)]
    rw [show k - ((tQ U).take k).length = 0 by rw [List.length_take]; omega]
    rfl
  have e2 : leaveW K U c k (tQ U).length = up (leaveW K U c (k + 1) (tQ U).length) ((tQ U).getD k 0) 3 := by
    funext p
    by_cases hp : p = (tQ U).getD k 0
    · rw [hp, up_s]
      unfold leaveW
      rw [if_pos ⟨by rw [q_idx hn hk]; omega, by rw [q_idx hn hk]; exact hk, hs⟩]
    · rw [up_n _ _ hp]
      unfold leaveW
      by_cases hl : (tQ U).idxOf p < (tQ U).length
      · have e3 := idx_d hn hk p hp hl
        simp only [e3]
      · rw [if_neg (fun q => hl q.2.1), if_neg (fun q => hl q.2.1)]
  unfold leaveP eraF
  simp only [mk_q, mk_w, mk_s, mk_b, mk_o, mk_mi, mk_ca, mk_se, mk_nx]
  rw [e1, e2]
theorem leaveP_0 {K : Kt} {U : Tt} {c : Bool} : leaveP K U c 0 = leaveF K U c := by
  unfold leaveP leaveF
  simp
theorem leaveP_n {K : Kt} {U : Tt} {c : Bool} : leaveP K U c (tQ U).length = U := by
  have e2 : leaveW K U c (tQ U).length (tQ U).length = tW U := by
    funext p
    exact if_neg (by omega)
  unfold leaveP
  rw [e2, List.take_length, List.drop_length]
  simp
  rfl
theorem leaveP_q {K : Kt} {U : Tt} {c : Bool} {k : Nat} (hk : k < (tQ U).length) : (tQ (leaveP K U c (k + 1))).getD k 0 = (tQ U).getD k 0 ∧ k < (tQ (leaveP K U c (k + 1))).length ∧ (tQ (leaveP K U c (k + 1))).length ≤ (tQ U).length := by
  have hl : ((tQ U).take (k + 1)).length = k + 1 := by rw [List.length_take]; omega
  refine ⟨?_, ?_, ?_⟩
  · show ((tQ U).take (k + 1) ++ ((tQ U).drop (k + 1)).filter (stays K U c)).getD k 0 = _
    rw [List.getD_eq_getElem?_getD, List.getElem?_append_left (by omega), List.getElem?_take_of_lt (by omega), ← List.getD_eq_getElem?_getD]
  · show k < ((tQ U).take (k + 1) ++ ((tQ U).drop (k + 1)).filter (stays K U c)).length
    rw [List.length_append, hl]; omega
  · show ((tQ U).take (k + 1) ++ ((tQ U).drop (k + 1)).filter (stays K U c)).length ≤ _
    have := List.length_filter_le (stays K U c) ((tQ U).drop (k + 1))
    rw [List.length_drop] at this
    rw [List.length_append, hl]; omega

theorem l_151b {d : Nat} {M0 : Mem} {Q : Option Vv → Mem → Prop} {K : Kt} {m : Int} {T : Tt} {cv : Int} (hKo : KOk K m) (hK : RepKR M0 K m) (hT : TOk K m T) (hcv : (cv = 1 ∧ 6 ≤ (tQ T).length) ∨ (cv = 0 ∧ (tQ T).length < 6)) (kk : ∀ M', RepR M' K m (standF K T) → OutR M0 M' → Q none M') : ∀ (f : Nat) (k : Int) (M : Mem) (x3 : Option Vv) (x4 : Option Vv), (-1 ≤ k ∧ k < (tQ T).length) → (RepR M K m (leaveP K (olderF T) (decide (6 ≤ (tQ T).length)) (k + 1).toNat)) → (OutR M0 M) → (k + 1).toNat < f → Ok (d + 2) 151 71 [some (vR (some 273)), some (vI cv), some (vI k), x3, x4] [] M Q := by
  intro f
  induction f with
  | zero => intro k M x3 x4 hk hR1 ho hf; exact absurd hf (Nat.not_lt_zero _)
  | succ f ih =>
    intro k M x3 x4 hk hR1 ho hf
    have hK1 := hK.out hKo ho
    obtain ⟨⟨g1, g2, g3, g4, g5, g6, g7, g8⟩, hKp⟩ := id hKo
    obtain ⟨r1, r2, r3, r4, r5, rq, rp⟩ := id hR1
    obtain ⟨u1, u2, u3, u4, u5, u6, u7⟩ := id hT
    have hl28 := q28 hKo hT
    refine k_iload_n i_151_71 rfl ?_
    refine k_if_lt (t := 152) i_151_72 rfl (fun h72 => ?_) (fun h72 => ?_)
    · refine k_vret i_151_152 rfl ?_
      refine kk M ?_ ho
      obtain rfl : k = -1 := by omega
      have e : leaveP K (olderF T) (decide (6 ≤ (tQ T).length)) (-1 + 1 : Int).toNat = standF K T := leaveP_0
      rw [e] at hR1
      exact hR1
    · refine k_aload_n i_151_75 rfl ?_
      refine k_getR (r := 274) i_151_76 o_151 rfl (by decide) (s_273) rfl ?_
      refine k_bipush i_151_79 (by decide) ?_
      refine k_iload_n i_151_81 rfl ?_
      refine k_iadd i_151_82 (by omega) ?_
      refine k_iald i_151_83 (s_274) (by omega) ?_
      obtain ⟨x, hx0⟩ : ∃ z : Int, z = M 274 (112 + k) := ⟨_, rfl⟩
      rw [← hx0]
      have hkl : k.toNat < (tQ T).length := by omega
      have hlq := leaveP_q (K := K) (U := olderF T) (c := (decide (6 ≤ (tQ T).length))) (k := k.toNat) hkl
      rw [show k.toNat + 1 = (k + 1).toNat by omega] at hlq
      have hx : x = (tQ T).getD k.toNat 0 := (hx0.trans (hR1.q (by omega) (by have := hlq.2.1; omega))).trans hlq.1
      have hmx : x ∈ tQ T := by rw [hx]; exact q_mem (by omega)
      have hvx : Va K m x := hT.va hmx
      have hvb := va_b hKo hvx
      have hso : tS (olderF T) x = tS T x + 1 := if_pos hmx
      have e1x : M 274 (145 + x) = kKd K x := (hK1.2.2 x hvx).1
      have e4x : M 274 (28 + x) = tS T x + 1 := (rp x hvx).2.2.1.trans hso
      have u4x := u4 x hvx
      have hbb : bears K (leaveP K (olderF T) (decide (6 ≤ (tQ T).length)) (k + 1).toNat) x = bears K (olderF T) x := rfl
      have hlk : ((tQ (olderF T)).length : Int) = (tQ T).length := rfl
      refine k_istore_n (ls' := [some (vR (some 273)), some (vI cv), some (vI k), some (vI x), x4]) i_151_84 rfl ?_
      refine k_aload_n i_151_85 rfl ?_
      refine k_getR (r := 274) i_151_86 o_151 rfl (by decide) (s_273) rfl ?_
      refine k_sipush i_151_89 (by decide) ?_
      refine k_iload_n i_151_92 rfl ?_
      refine k_iadd i_151_93 (by omega) ?_
      refine k_iald i_151_94 (s_274) (by omega) ?_
      refine k_iconst i_151_95 (by decide) ?_
      refine k_icmp_ne (t := 103) i_151_96 rfl (fun h96 => ?_) (fun h96 => ?_)
      · refine k_aload_n i_151_103 rfl ?_
        refine k_getR (r := 274) i_151_104 o_151 rfl (by decide) (s_273) rfl ?_
        refine k_bipush i_151_107 (by decide) ?_
        refine k_iload_n i_151_109 rfl ?_
        refine k_iadd i_151_110 (by omega) ?_
        refine k_iald i_151_111 (s_274) (by omega) ?_
        refine k_aload_n i_151_112 rfl ?_
        refine k_iload_n i_151_113 rfl ?_
        refine k_invV (n := 1) (o' := 8) (av := [vR (some 273), vI x]) (rest := [vI (M 274 (28 + x))]) (el := [some (vR (some 273)), some (vI x), none, none, none]) i_151_114 o_151 rfl v_150 rfl (s_273) rfl rfl rfl rfl rfl ?_
        refine c_150 hKo hK1 hR1 hvx (by show 0 ≤ tS (olderF T) x ∧ tS (olderF T) x ≤ 1000000; rw [hso]; omega) (fun br hbr => ?_)
        show Ok _ 151 117 [some (vR (some 273)), some (vI cv), some (vI k), some (vI x), x4] [vI br, vI (M 274 (28 + x))] (M) _
        refine k_icmp_gt (t := 124) i_151_117 rfl (fun h117 => ?_) (fun h117 => ?_)
        · refine k_iconst i_151_124 (by decide) ?_
          refine k_istore (ls' := [some (vR (some 273)), some (vI cv), some (vI k), some (vI x), some (vI 0)]) i_151_125 rfl ?_
          refine k_iload i_151_127 rfl ?_
          refine k_if_ne (t := 146) i_151_129 rfl (fun h129 => absurd h129 (by decide)) (fun h129 => ?_)
          refine k_aload_n i_151_132 rfl ?_
          refine k_getR (r := 274) i_151_133 o_151 rfl (by decide) (s_273) rfl ?_
          refine k_iconst i_151_136 (by decide) ?_
          refine k_iload_n i_151_137 rfl ?_
          refine k_iadd i_151_138 (by omega) ?_
          rw [show (0 : Int) + x = x from Int.zero_add x]
          refine k_iconst i_151_139 (by decide) ?_
          refine k_iast i_151_140 (s_274) (by omega) ?_
          have hl3 : ((tQ (leaveP K (olderF T) (decide (6 ≤ (tQ T).length)) (k + 1).toNat)).length : Int) ≤ 28 := by have := hlq.2.2; omega
          have hR2 := hR1.setW hKo hl3 3 hvx
          have hl2 := hl3
          have hk2 : 0 ≤ k ∧ k < (tQ (leaveP K (olderF T) (decide (6 ≤ (tQ T).length)) (k + 1).toNat)).length := by have := hlq.2.1; omega
          refine k_aload_n i_151_141 rfl ?_
          refine k_iload_n i_151_142 rfl ?_
          refine k_invV (n := 1) (o' := 8) (av := [vR (some 273), vI k]) (rest := []) (el := [some (vR (some 273)), some (vI k), none]) i_151_143 o_151 rfl v_149 rfl (s_273) rfl rfl rfl rfl rfl ?_
          refine c_149 (k := k) hKo hR2 (by exact hl2) (by exact hk2) (fun M2 hR3 ho3 => ?_)
          show Ok _ 151 146 [some (vR (some 273)), some (vI cv), some (vI k), some (vI x), some (vI 0)] [] (M2) _
          refine k_iinc (ls' := [some (vR (some 273)), some (vI cv), some (vI (k + (-1))), some (vI x), some (vI 0)]) i_151_146 rfl (by omega) rfl ?_
          refine k_goto (t := 71) i_151_149 rfl ?_
          have hst : stays K (olderF T) (decide (6 ≤ (tQ T).length)) x = false := by
            unfold stays
            rw [decide_eq_false (show ¬ tS (olderF T) x ≤ bears K (olderF T) x by rw [hso]; rw [hbb] at hbr; omega)]
            simp only [Bool.or_false, Bool.and_eq_false_iff, decide_eq_false_iff_not]
            omega
          rw [hx] at hst
          refine ih (k + -1) _ _ _ (by omega) ?_ ((ho.mu (by omega)).tr ho3) (by omega)
          rw [show (k + -1 + 1).toNat = k.toNat by omega, leaveP_go (U := olderF T) hT.1 (by show k.toNat < (tQ T).length; omega) hst, show (tQ (olderF T)).getD k.toNat 0 = x from hx.symm, show k.toNat + 1 = (k + 1).toNat by omega]
          exact hR3
        · refine k_iconst i_151_120 (by decide) ?_
          refine k_goto (t := 125) i_151_121 rfl ?_
          refine k_istore (ls' := [some (vR (some 273)), some (vI cv), some (vI k), some (vI x), some (vI 1)]) i_151_125 rfl ?_
          refine k_iload i_151_127 rfl ?_
          refine k_if_ne (t := 146) i_151_129 rfl (fun h129 => ?_) (fun h129 => absurd h129 (by decide))
          refine k_iinc (ls' := [some (vR (some 273)), some (vI cv), some (vI (k + (-1))), some (vI x), some (vI 1)]) i_151_146 rfl (by omega) rfl ?_
          refine k_goto (t := 71) i_151_149 rfl ?_
          have hst : stays K (olderF T) (decide (6 ≤ (tQ T).length)) x = true := by
            unfold stays
            first
              | (rw [decide_eq_true (show tS (olderF T) x ≤ bears K (olderF T) x by rw [hso]; rw [hbb] at hbr; omega)]; simp; done)
              | (rw [decide_eq_true (show 6 ≤ (tQ T).length by omega), decide_eq_true (show kKd K x = 2 by omega)]; simp)
          rw [hx] at hst
          refine ih (k + -1) _ _ _ (by omega) ?_ ho (by omega)
          rw [show (k + -1 + 1).toNat = k.toNat by omega, leaveP_stay (U := olderF T) hT.1 (by show k.toNat < (tQ T).length; omega) hst, show k.toNat + 1 = (k + 1).toNat by omega]
          exact hR1
      · refine k_iload_n i_151_99 rfl ?_
        refine k_if_ne (t := 120) i_151_100 rfl (fun h100 => ?_) (fun h100 => ?_)
        · refine k_iconst i_151_120 (by decide) ?_
          refine k_goto (t := 125) i_151_121 rfl ?_
          refine k_istore (ls' := [some (vR (some 273)), some (vI cv), some (vI k), some (vI x), some (vI 1)]) i_151_125 rfl ?_
          refine k_iload i_151_127 rfl ?_
          refine k_if_ne (t := 146) i_151_129 rfl (fun h129 => ?_) (fun h129 => absurd h129 (by decide))
          refine k_iinc (ls' := [some (vR (some 273)), some (vI cv), some (vI (k + (-1))), some (vI x), some (vI 1)]) i_151_146 rfl (by omega) rfl ?_
          refine k_goto (t := 71) i_151_149 rfl ?_
          have hst : stays K (olderF T) (decide (6 ≤ (tQ T).length)) x = true := by
            unfold stays
            first
              | (rw [decide_eq_true (show tS (olderF T) x ≤ bears K (olderF T) x by rw [hso]; rw [hbb] at hbr; omega)]; simp; done)
              | (rw [decide_eq_true (show 6 ≤ (tQ T).length by omega), decide_eq_true (show kKd K x = 2 by omega)]; simp)
          rw [hx] at hst
          refine ih (k + -1) _ _ _ (by omega) ?_ ho (by omega)
          rw [show (k + -1 + 1).toNat = k.toNat by omega, leaveP_stay (U := olderF T) hT.1 (by show k.toNat < (tQ T).length; omega) hst, show k.toNat + 1 = (k + 1).toNat by omega]
          exact hR1
        · refine k_aload_n i_151_103 rfl ?_
          refine k_getR (r := 274) i_151_104 o_151 rfl (by decide) (s_273) rfl ?_
          refine k_bipush i_151_107 (by decide) ?_
          refine k_iload_n i_151_109 rfl ?_
          refine k_iadd i_151_110 (by omega) ?_
          refine k_iald i_151_111 (s_274) (by omega) ?_
          refine k_aload_n i_151_112 rfl ?_
          refine k_iload_n i_151_113 rfl ?_
          refine k_invV (n := 1) (o' := 8) (av := [vR (some 273), vI x]) (rest := [vI (M 274 (28 + x))]) (el := [some (vR (some 273)), some (vI x), none, none, none]) i_151_114 o_151 rfl v_150 rfl (s_273) rfl rfl rfl rfl rfl ?_
          refine c_150 hKo hK1 hR1 hvx (by show 0 ≤ tS (olderF T) x ∧ tS (olderF T) x ≤ 1000000; rw [hso]; omega) (fun br hbr => ?_)
          show Ok _ 151 117 [some (vR (some 273)), some (vI cv), some (vI k), some (vI x), x4] [vI br, vI (M 274 (28 + x))] (M) _
          refine k_icmp_gt (t := 124) i_151_117 rfl (fun h117 => ?_) (fun h117 => ?_)
          · refine k_iconst i_151_124 (by decide) ?_
            refine k_istore (ls' := [some (vR (some 273)), some (vI cv), some (vI k), some (vI x), some (vI 0)]) i_151_125 rfl ?_
            refine k_iload i_151_127 rfl ?_
            refine k_if_ne (t := 146) i_151_129 rfl (fun h129 => absurd h129 (by decide)) (fun h129 => ?_)
            refine k_aload_n i_151_132 rfl ?_
            refine k_getR (r := 274) i_151_133 o_151 rfl (by decide) (s_273) rfl ?_
            refine k_iconst i_151_136 (by decide) ?_
            refine k_iload_n i_151_137 rfl ?_
            refine k_iadd i_151_138 (by omega) ?_
            rw [show (0 : Int) + x = x from Int.zero_add x]
            refine k_iconst i_151_139 (by decide) ?_
            refine k_iast i_151_140 (s_274) (by omega) ?_
            have hl3 : ((tQ (leaveP K (olderF T) (decide (6 ≤ (tQ T).length)) (k + 1).toNat)).length : Int) ≤ 28 := by have := hlq.2.2; omega
            have hR2 := hR1.setW hKo hl3 3 hvx
            have hl2 := hl3
            have hk2 : 0 ≤ k ∧ k < (tQ (leaveP K (olderF T) (decide (6 ≤ (tQ T).length)) (k + 1).toNat)).length := by have := hlq.2.1; omega
            refine k_aload_n i_151_141 rfl ?_
            refine k_iload_n i_151_142 rfl ?_
            refine k_invV (n := 1) (o' := 8) (av := [vR (some 273), vI k]) (rest := []) (el := [some (vR (some 273)), some (vI k), none]) i_151_143 o_151 rfl v_149 rfl (s_273) rfl rfl rfl rfl rfl ?_
            refine c_149 (k := k) hKo hR2 (by exact hl2) (by exact hk2) (fun M2 hR3 ho3 => ?_)
            show Ok _ 151 146 [some (vR (some 273)), some (vI cv), some (vI k), some (vI x), some (vI 0)] [] (M2) _
            refine k_iinc (ls' := [some (vR (some 273)), some (vI cv), some (vI (k + (-1))), some (vI x), some (vI 0)]) i_151_146 rfl (by omega) rfl ?_
            refine k_goto (t := 71) i_151_149 rfl ?_
            have hst : stays K (olderF T) (decide (6 ≤ (tQ T).length)) x = false := by
              unfold stays
              rw [decide_eq_false (show ¬ tS (olderF T) x ≤ bears K (olderF T) x by rw [hso]; rw [hbb] at hbr; omega)]
              simp only [Bool.or_false, Bool.and_eq_false_iff, decide_eq_false_iff_not]
              omega
            rw [hx] at hst
            refine ih (k + -1) _ _ _ (by omega) ?_ ((ho.mu (by omega)).tr ho3) (by omega)
            rw [show (k + -1 + 1).toNat = k.toNat by omega, leaveP_go (U := olderF T) hT.1 (by show k.toNat < (tQ T).length; omega) hst, show (tQ (olderF T)).getD k.toNat 0 = x from hx.symm, show k.toNat + 1 = (k + 1).toNat by omega]
            exact hR3
          · refine k_iconst i_151_120 (by decide) ?_
            refine k_goto (t := 125) i_151_121 rfl ?_
            refine k_istore (ls' := [some (vR (some 273)), some (vI cv), some (vI k), some (vI x), some (vI 1)]) i_151_125 rfl ?_
            refine k_iload i_151_127 rfl ?_
            refine k_if_ne (t := 146) i_151_129 rfl (fun h129 => ?_) (fun h129 => absurd h129 (by decide))
            refine k_iinc (ls' := [some (vR (some 273)), some (vI cv), some (vI (k + (-1))), some (vI x), some (vI 1)]) i_151_146 rfl (by omega) rfl ?_
            refine k_goto (t := 71) i_151_149 rfl ?_
            have hst : stays K (olderF T) (decide (6 ≤ (tQ T).length)) x = true := by
              unfold stays
              first
                | (rw [decide_eq_true (show tS (olderF T) x ≤ bears K (olderF T) x by rw [hso]; rw [hbb] at hbr; omega)]; simp; done)
                | (rw [decide_eq_true (show 6 ≤ (tQ T).length by omega), decide_eq_true (show kKd K x = 2 by omega)]; simp)
            rw [hx] at hst
            refine ih (k + -1) _ _ _ (by omega) ?_ ho (by omega)
            rw [show (k + -1 + 1).toNat = k.toNat by omega, leaveP_stay (U := olderF T) hT.1 (by show k.toNat < (tQ T).length; omega) hst, show k.toNat + 1 = (k + 1).toNat by omega]
            exact hR1

theorem l_151a {d : Nat} {M0 : Mem} {Q : Option Vv → Mem → Prop} {K : Kt} {m : Int} {T : Tt} {cv : Int} (hKo : KOk K m) (hK : RepKR M0 K m) (hT : TOk K m T) (hcv : (cv = 1 ∧ 6 ≤ (tQ T).length) ∨ (cv = 0 ∧ (tQ T).length < 6)) (kk : ∀ M', RepR M' K m (standF K T) → OutR M0 M' → Q none M') : ∀ (f : Nat) (k : Int) (M : Mem), (0 ≤ k ∧ k ≤ (tQ T).length) → (RepR M K m (olderP T k.toNat)) → (OutR M0 M) → ((tQ T).length - k).toNat < f → Ok (d + 2) 151 21 [some (vR (some 273)), some (vI cv), some (vI k), none, none] [] M Q := by
  intro f
  induction f with
  | zero => intro k M hk hR1 ho hf; exact absurd hf (Nat.not_lt_zero _)
  | succ f ih =>
    intro k M hk hR1 ho hf
    have hK1 := hK.out hKo ho
    obtain ⟨⟨g1, g2, g3, g4, g5, g6, g7, g8⟩, hKp⟩ := id hKo
    obtain ⟨r1, r2, r3, r4, r5, rq, rp⟩ := id hR1
    obtain ⟨u1, u2, u3, u4, u5, u6, u7⟩ := id hT
    have hl28 := q28 hKo hT
    have hlk : ((tQ (olderP T k.toNat)).length : Int) = (tQ T).length := rfl
    refine k_iload_n i_151_21 rfl ?_
    refine k_aload_n i_151_22 rfl ?_
    refine k_getR (r := 274) i_151_23 o_151 rfl (by decide) (s_273) rfl ?_
    refine k_sipush i_151_26 (by decide) ?_
    refine k_iald i_151_29 (s_274) (by omega) ?_
    refine k_icmp_ge (t := 60) i_151_30 rfl (fun h30 => ?_) (fun h30 => ?_)
    · refine k_aload_n i_151_60 rfl ?_
      refine k_getR (r := 274) i_151_61 o_151 rfl (by decide) (s_273) rfl ?_
      refine k_sipush i_151_64 (by decide) ?_
      refine k_iald i_151_67 (s_274) (by omega) ?_
      refine k_iconst i_151_68 (by decide) ?_
      refine k_isub i_151_69 (by omega) ?_
      refine k_istore_n (ls' := [some (vR (some 273)), some (vI cv), some (vI ((M 274 140) - 1)), none, none]) i_151_70 rfl ?_
      have hkl : k.toNat = (tQ T).length := by omega
      rw [hkl, older_e] at hR1
      have hR2 : RepR M K m (leaveP K (olderF T) (decide (6 ≤ (tQ T).length)) (M 274 140 - 1 + 1).toNat) := by
        have e8 : (M 274 140 - 1 + 1).toNat = (tQ (olderF T)).length := by
          show _ = (tQ T).length
          omega
        rw [e8, leaveP_n]
        exact hR1
      exact l_151b hKo hK hT hcv kk ((M 274 140 - 1 + 1).toNat + 1) (M 274 140 - 1) M _ _ (by omega) hR2 ho (by omega)
    · refine k_aload_n i_151_33 rfl ?_
      refine k_getR (r := 274) i_151_34 o_151 rfl (by decide) (s_273) rfl ?_
      refine k_bipush i_151_37 (by decide) ?_
      refine k_aload_n i_151_39 rfl ?_
      refine k_getR (r := 274) i_151_40 o_151 rfl (by decide) (s_273) rfl ?_
      refine k_bipush i_151_43 (by decide) ?_
      refine k_iload_n i_151_45 rfl ?_
      refine k_iadd i_151_46 (by omega) ?_
      refine k_iald i_151_47 (s_274) (by omega) ?_
      obtain ⟨x, hx0⟩ : ∃ z : Int, z = M 274 (112 + k) := ⟨_, rfl⟩
      rw [← hx0]
      have hx : x = (tQ T).getD k.toNat 0 := hx0.trans (hR1.q (by omega) (by omega))
      have hmx : x ∈ tQ T := by rw [hx]; exact q_mem (by omega)
      have hvx : Va K m x := hT.va hmx
      have hvb := va_b hKo hvx
      have hix : (tQ T).idxOf x = k.toNat := by rw [hx]; exact q_idx hT.1 (by omega)
      have e4x : M 274 (28 + x) = tS T x := (rp x hvx).2.2.1.trans (if_neg (by omega))
      have u4x := u4 x hvx
      refine k_iadd i_151_48 (by omega) ?_
      refine k_dup2 i_151_49 ?_
      refine k_iald i_151_50 (s_274) (by omega) ?_
      refine k_iconst i_151_51 (by decide) ?_
      refine k_iadd i_151_52 (by omega) ?_
      refine k_iast i_151_53 (s_274) (by omega) ?_
      refine k_iinc (ls' := [some (vR (some 273)), some (vI cv), some (vI (k + 1)), none, none]) i_151_54 rfl (by omega) rfl ?_
      refine k_goto (t := 21) i_151_57 rfl ?_
      refine ih (k + 1) _ (by omega) ?_ (ho.mu (by omega)) (by omega)
      rw [show (k + 1).toNat = k.toNat + 1 by omega, older_s hT.1 (by omega), ← hx]
      have q := RepR.setS (T := olderP T k.toNat) hKo hl28 hR1 (M 274 (28 + x) + 1) hvx
      rw [e4x] at q ⊢
      exact q

/-- ElbowQueueModel.leave -/
theorem c_151 {d : Nat} {M : Mem} {Q : Option Vv → Mem → Prop} {K : Kt} {m : Int} {T : Tt} (hKo : KOk K m) (hK : RepKR M K m) (hR : RepR M K m T) (hT : TOk K m T) (kk : ∀ M', RepR M' K m (standF K T) → OutR M M' → Q none M') : Ok (d + 2) 151 0 [some (vR (some 273)), none, none, none, none] [] M Q := by
  obtain ⟨r1, r2, r3, r4, r5, rq, rp⟩ := id hR
  refine k_aload_n i_151_0 rfl ?_
  refine k_getR (r := 274) i_151_1 o_151 rfl (by decide) (s_273) rfl ?_
  refine k_sipush i_151_4 (by decide) ?_
  refine k_iald i_151_7 (s_274) (by omega) ?_
  refine k_bipush i_151_8 (by decide) ?_
  refine k_icmp_lt (t := 17) i_151_10 rfl (fun h10 => ?_) (fun h10 => ?_)
  · refine k_iconst i_151_17 (by decide) ?_
    refine k_istore_n (ls' := [some (vR (some 273)), some (vI 0), none, none, none]) i_151_18 rfl ?_
    refine k_iconst i_151_19 (by decide) ?_
    refine k_istore_n (ls' := [some (vR (some 273)), some (vI 0), some (vI 0), none, none]) i_151_20 rfl ?_
    refine l_151a (cv := 0) hKo hK hT (by omega) kk ((tQ T).length + 1) 0 M (by omega) ?_ (OutR.rf M) (by omega)
    rw [show (0 : Int).toNat = 0 from rfl, older_0]
    exact hR
  · refine k_iconst i_151_13 (by decide) ?_
    refine k_goto (t := 18) i_151_14 rfl ?_
    refine k_istore_n (ls' := [some (vR (some 273)), some (vI 1), none, none, none]) i_151_18 rfl ?_
    refine k_iconst i_151_19 (by decide) ?_
    refine k_istore_n (ls' := [some (vR (some 273)), some (vI 1), some (vI 0), none, none]) i_151_20 rfl ?_
    refine l_151a (cv := 1) hKo hK hT (by omega) kk ((tQ T).length + 1) 0 M (by omega) ?_ (OutR.rf M) (by omega)
    rw [show (0 : Int).toNat = 0 from rfl, older_0]
    exact hR

/-- ElbowQueueModel.join -/
theorem c_152 {d : Nat} {M : Mem} {Q : Option Vv → Mem → Prop} {K : Kt} {m : Int} {T : Tt} {x : Int} (hKo : KOk K m) (hR : RepR M K m T) (hl : ((tQ T).length : Int) < 28) (hv : Va K m x) (kk : ∀ M', RepR M' K m (joinF T x) → OutR M M' → Q none M') : Ok d 152 0 [some (vR (some 273)), some (vI x)] [] M Q := by
  obtain ⟨r1, r2, r3, r4, r5, rq, rp⟩ := id hR
  have hvb := va_b hKo hv
  refine k_aload_n i_152_0 rfl ?_
  refine k_getR (r := 274) i_152_1 o_152 rfl (by decide) (s_273) rfl ?_
  refine k_bipush i_152_4 (by decide) ?_
  refine k_aload_n i_152_6 rfl ?_
  refine k_getR (r := 274) i_152_7 o_152 rfl (by decide) (s_273) rfl ?_
  refine k_sipush i_152_10 (by decide) ?_
  refine k_iald i_152_13 (s_274) (by omega) ?_
  refine k_iadd i_152_14 (by omega) ?_
  refine k_iload_n i_152_15 rfl ?_
  refine k_iast i_152_16 (s_274) (by omega) ?_
  refine k_aload_n i_152_17 rfl ?_
  refine k_getR (r := 274) i_152_18 o_152 rfl (by decide) (s_273) rfl ?_
  refine k_sipush i_152_21 (by decide) ?_
  refine k_dup2 i_152_24 ?_
  refine k_iald i_152_25 (s_274) (by omega) ?_
  rw [mu_j (M := M) (a := 274) (b := 274) (i := 112 + (M 274 140)) (j := 140) (v := x) (by omega)]
  refine k_iconst i_152_26 (by decide) ?_
  refine k_iadd i_152_27 (by omega) ?_
  refine k_iast i_152_28 (s_274) (by omega) ?_
  refine k_aload_n i_152_29 rfl ?_
  refine k_getR (r := 274) i_152_30 o_152 rfl (by decide) (s_273) rfl ?_
  refine k_iconst i_152_33 (by decide) ?_
  refine k_iload_n i_152_34 rfl ?_
  refine k_iadd i_152_35 (by omega) ?_
  rw [show (0 : Int) + x = x from Int.zero_add x]
  refine k_iconst i_152_36 (by decide) ?_
  refine k_iast i_152_37 (s_274) (by omega) ?_
  refine k_vret i_152_38 rfl ?_
  refine kk _ ?_ ((((OutR.rf M).mu (by omega)).mu (by omega)).mu (by omega))
  refine ⟨?_, ?_, ?_, ?_, ?_, ?_, ?_⟩
  · rw [mu_j (by omega), mu_j (by omega), mu_j (by omega)]; exact r1
  · rw [mu_j (by omega), mu_j (by omega), mu_j (by omega)]; exact r2
  · rw [mu_j (by omega), mu_j (by omega), mu_j (by omega)]; exact r3
  · rw [mu_j (by omega), mu_s]
    simp only [joinF, mk_q, List.length_append, List.length_cons, List.length_nil]
    omega
  · rw [mu_j (by omega), mu_j (by omega), mu_j (by omega)]; exact r5
  · intro j p hj
    simp only [joinF, mk_q] at hj
    have hj2 := (List.getElem?_eq_some_iff.mp hj).1
    simp only [List.length_append, List.length_cons, List.length_nil] at hj2
    rw [mu_j (by omega), mu_j (by omega)]
    by_cases c1 : j < (tQ T).length
    · rw [List.getElem?_append_left c1] at hj
      rw [mu_j (by omega)]
      exact rq j p hj
    · obtain rfl : j = (tQ T).length := by omega
      rw [List.getElem?_append_right (Nat.le_refl _), Nat.sub_self] at hj
      cases hj
      rw [← r4, mu_s]
  · intro p hp
    have hpb := va_b hKo hp
    obtain ⟨f1, f2, f3, f4⟩ := rp p hp
    refine ⟨by rw [mu_j (by omega), mu_j (by omega), mu_j (by omega)]; exact f1, ?_, by rw [mu_j (by omega), mu_j (by omega), mu_j (by omega)]; exact f3, by rw [mu_j (by omega), mu_j (by omega), mu_j (by omega)]; exact f4⟩
    show _ = up (tW T) x 1 p
    by_cases e : p = x
    · subst e; rw [mu_s, up_s]
    · rw [mu_j e, up_n _ _ e, mu_j (by omega), mu_j (by omega)]; exact f2
