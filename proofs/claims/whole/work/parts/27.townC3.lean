/-- standOn, its first k people done -/
def SI (M : Mem) (a : Nat) (K : Kt) (m : Int) (T : Tt) (c : Bool) (k : Nat) : Prop :=
  M a 6 = tMi T ∧ M a 7 = tCa T ∧ M a 8 = tSe T ∧ M a 9 = (tQ T).length ∧ M a 10 = tNx T ∧
  (∀ (j : Nat) (p : Int), (((tQ T).take k).filter (stays K (olderF T) c))[j]? = some p → M (a + 1) j = p) ∧
  (∀ (j : Nat) (p : Int), k ≤ j → (tQ T)[j]? = some p → M (a + 1) j = p) ∧
  ∀ p, Va K m p → M (a + 2) p = tB T p ∧ M (a + 3) p = leaveW K (olderF T) c 0 k p ∧ M (a + 4) p = (if (tQ T).idxOf p < k then tS T p + 1 else tS T p) ∧ M (a + 5) p = tO T p
theorem take_s {l : List Int} {k : Nat} (h : k < l.length) : l.take (k + 1) = l.take k ++ [l.getD k 0] := by
  rw [List.take_succ, q_at h]
  rfl
theorem fil_le {l : List Int} {k : Nat} {f : Int → Bool} : ((l.take k).filter f).length ≤ k := Nat.le_trans (List.length_filter_le _ _) (by rw [List.length_take]; omega)
theorem idx_s {l : List Int} (hn : l.Nodup) {k : Nat} (h : k < l.length) (p : Int) : l.idxOf p < k + 1 ↔ (l.idxOf p < k ∨ p = l.getD k 0) := by
  constructor
  · intro q
    by_cases e : l.idxOf p < k
    · exact Or.inl e
    · have e2 : l.idxOf p = k := by omega
      exact Or.inr (by rw [← e2, q_get (q_idx_lt q (by omega))])
  · intro q
    rcases q with q | q
    · omega
    · rw [q, q_idx hn h]; omega

theorem l_76 {d : Nat} {M0 : Mem} {Q : Option Vv → Mem → Prop} {a rm : Nat} {K : Kt} {m : Int} {T : Tt} {cv : Int} (ht : Tw a 20 rm) (hrm : 16 + m ≤ (rm : Int) ∧ (rm : Int) ≤ 28) (hKo : KOk K m) (hT : TOk K m T) (ha : 24 < a) (hK : RepK M0 20 K m) (hcv : (cv = 1 ∧ 6 ≤ (tQ T).length) ∨ (cv = 0 ∧ (tQ T).length < 6)) (kk : ∀ M', RepC M' a K m (standF K T) → OutT M0 M' a → Q none M') : ∀ (f : Nat) (k : Int) (st : Int) (M : Mem) (x4 : Option Vv) (x5 : Option Vv), (0 ≤ k ∧ k ≤ (tQ T).length) → (st = ((((tQ T).take k.toNat).filter (stays K (olderF T) (decide (6 ≤ (tQ T).length)))).length : Int)) → (SI M a K m T (decide (6 ≤ (tQ T).length)) k.toNat) → (OutT M0 M a) → ((tQ T).length - k).toNat < f → Ok (d + 1) 76 19 [some (vR (some a)), some (vI cv), some (vI st), some (vI k), x4, x5] [] M Q := by
  intro f
  induction f with
  | zero => intro k st M x4 x5 hk hs hM ho hf; exact absurd hf (Nat.not_lt_zero _)
  | succ f ih =>
    intro k st M x4 x5 hk hs hM ho hf
    have hK1 := hK.out ho (by omega)
    obtain ⟨⟨g1, g2, g3, g4, g5, g6, g7, g8⟩, hKp⟩ := id hKo
    obtain ⟨r6, r7, r8, r9, r10, rq1, rq2, rp⟩ := id hM
    obtain ⟨u1, u2, u3, u4, u5, u6, u7⟩ := id hT
    have hsl := fil_le (l := tQ T) (k := k.toNat) (f := stays K (olderF T) (decide (6 ≤ (tQ T).length)))
    refine k_iload_n i_76_19 rfl ?_
    refine k_aload_n i_76_20 rfl ?_
    refine k_getI (kz := 9) i_76_21 o_76 rfl (by decide) (ht.1) rfl ?_
    refine k_icmp_ge (t := 120) i_76_24 rfl (fun h24 => ?_) (fun h24 => ?_)
    · refine k_aload_n i_76_120 rfl ?_
      refine k_iload_n i_76_121 rfl ?_
      refine k_putI (kz := 9) i_76_122 o_76 rfl (by decide) (ht.1) rfl ?_
      refine k_vret i_76_125 rfl ?_
      have hkl : k.toNat = (tQ T).length := by omega
      rw [hkl] at rq1 rp hs
      rw [List.take_length] at rq1 hs
      refine kk _ ⟨?_, ?_, ?_, ?_, ?_, ?_, ?_⟩ (ho.mu (by omega))
      · rw [mu_j (by decide)]; exact r6
      · rw [mu_j (by decide)]; exact r7
      · rw [mu_j (by decide)]; exact r8
      · rw [mu_s, hs]; rfl
      · rw [mu_j (by decide)]; exact r10
      · intro j p hj; rw [mu_ne (by omega)]; exact rq1 j p hj
      · intro p hp
        obtain ⟨f2, f3, f4, f5⟩ := rp p hp
        refine ⟨by rw [mu_ne (by omega)]; exact f2, by rw [mu_ne (by omega)]; exact f3, ?_, by rw [mu_ne (by omega)]; exact f5⟩
        rw [mu_ne (by omega), f4]
        show _ = if p ∈ tQ T then tS T p + 1 else tS T p
        have e3 : (tQ T).idxOf p < (tQ T).length ↔ p ∈ tQ T := List.idxOf_lt_length_iff
        simp only [e3]
    · refine k_aload_n i_76_27 rfl ?_
      refine k_getR (r := (a + 1)) i_76_28 o_76 rfl (by decide) (ht.1) rfl ?_
      refine k_iload_n i_76_31 rfl ?_
      refine k_iald i_76_32 (ht.2.1) (by omega) ?_
      obtain ⟨x, hx0⟩ : ∃ z : Int, z = M (a + 1) k := ⟨_, rfl⟩
      rw [← hx0]
      have hx : x = (tQ T).getD k.toNat 0 := by
        have q := rq2 k.toNat _ (Nat.le_refl _) (q_at (by omega))
        rw [Int.toNat_of_nonneg hk.1] at q
        exact hx0.trans q
      have hmx : x ∈ tQ T := by rw [hx]; exact q_mem (by omega)
      have hvx : Va K m x := hT.va hmx
      have hv2 : (0 ≤ x ∧ x < kPe K) ∨ (16 ≤ x ∧ x < 16 + m) := hvx
      have hix : (tQ T).idxOf x = k.toNat := by rw [hx]; exact q_idx hT.1 (by omega)
      have e4x : M (a + 4) x = tS T x := by have q := (rp x hvx).2.2.1; rw [if_neg (by omega)] at q; exact q
      have e1x : M 21 x = kKd K x := (hK1.2.2 x hvx).1
      have u4x := u4 x hvx
      refine k_istore (ls' := [some (vR (some a)), some (vI cv), some (vI st), some (vI k), some (vI x), x5]) i_76_33 rfl ?_
      refine k_aload_n i_76_35 rfl ?_
      refine k_getR (r := (a + 4)) i_76_36 o_76 rfl (by decide) (ht.1) rfl ?_
      refine k_iload i_76_39 rfl ?_
      refine k_dup2 i_76_41 ?_
      refine k_iald i_76_42 (ht.2.2.2.2.1) (by omega) ?_
      refine k_iconst i_76_43 (by decide) ?_
      refine k_iadd i_76_44 (by omega) ?_
      refine k_iast i_76_45 (ht.2.2.2.2.1) (by omega) ?_
      have hK2 : RepK (mu M (a + 4) (x) ((M (a + 4) x) + 1)) 20 K m := hK1.out ((OutT.rf M a).mu (by omega)) (by omega)
      obtain ⟨T2, hT2⟩ : ∃ T2, T2 = mkT (tQ T) (leaveW K (olderF T) (decide (6 ≤ (tQ T).length)) 0 k.toNat) (fun p => if (tQ T).idxOf p < k.toNat + 1 then tS T p + 1 else tS T p) (tB T) (tO T) (tMi T) (tCa T) (tSe T) (tNx T) := ⟨_, rfl⟩
      have hP2 : RepP (mu M (a + 4) (x) ((M (a + 4) x) + 1)) a K m T2 := by
        subst hT2
        refine ⟨by rw [mu_ne (by omega)]; exact r7, fun p hp => ?_⟩
        obtain ⟨f2, f3, f4, f5⟩ := rp p hp
        refine ⟨by rw [mu_ne (by omega)]; exact f2, by rw [mu_ne (by omega)]; exact f3, ?_, by rw [mu_ne (by omega)]; exact f5⟩
        show _ = if (tQ T).idxOf p < k.toNat + 1 then tS T p + 1 else tS T p
        by_cases e : p = x
        · subst e
          rw [mu_s, if_pos (by rw [hix]; omega), e4x]
        · rw [mu_j e, f4]
          have e3 : (tQ T).idxOf p < k.toNat + 1 ↔ (tQ T).idxOf p < k.toNat := ⟨fun q => ((idx_s hT.1 (by omega) p).mp q).resolve_right (by rw [← hx]; exact e), fun q => by omega⟩
          simp only [e3]
      have hsx : tS T2 x = tS T x + 1 := by
        subst hT2
        show (if (tQ T).idxOf x < k.toNat + 1 then tS T x + 1 else tS T x) = _
        rw [if_pos (by rw [hix]; omega)]
      have hso : tS (olderF T) x = tS T x + 1 := if_pos hmx
      have hbb : bears K T2 x = bears K (olderF T) x := bears_congr (by subst hT2; rfl) (by rw [hsx, hso])
      refine k_iload_n i_76_46 rfl ?_
      refine k_if_eq (t := 68) i_76_47 rfl (fun h47 => ?_) (fun h47 => ?_)
      · refine k_iconst i_76_68 (by decide) ?_
        refine k_istore (ls' := [some (vR (some a)), some (vI cv), some (vI st), some (vI k), some (vI x), some (vI 0)]) i_76_69 rfl ?_
        refine k_aload_n i_76_71 rfl ?_
        refine k_getR (r := (a + 4)) i_76_72 o_76 rfl (by decide) (ht.1) rfl ?_
        refine k_iload i_76_75 rfl ?_
        refine k_iald i_76_77 (ht.2.2.2.2.1) (by omega) ?_
        rw [mu_s M (a + 4) (x) ((M (a + 4) x) + 1)]
        refine k_aload_n i_76_78 rfl ?_
        refine k_iload i_76_79 rfl ?_
        refine k_invV (n := 1) (o' := 6) (av := [vR (some a), vI x]) (rest := [vI ((M (a + 4) x) + 1)]) (el := [some (vR (some a)), some (vI x), none, none, none]) i_76_81 o_76 rfl v_77 rfl (ht.1) rfl rfl rfl rfl rfl ?_
        refine c_77 ht hrm hKo hK2 hP2 hvx (by rw [hsx]; omega) (fun br hbr => ?_)
        show Ok _ 76 84 [some (vR (some a)), some (vI cv), some (vI st), some (vI k), some (vI x), some (vI 0)] [vI br, vI ((M (a + 4) x) + 1)] (mu M (a + 4) (x) ((M (a + 4) x) + 1)) _
        refine k_icmp_le (t := 103) i_76_84 rfl (fun h84 => ?_) (fun h84 => ?_)
        · refine k_aload_n i_76_103 rfl ?_
          refine k_getR (r := (a + 1)) i_76_104 o_76 rfl (by decide) (ht.1) rfl ?_
          refine k_iload_n i_76_107 rfl ?_
          refine k_iload i_76_108 rfl ?_
          refine k_iast i_76_110 (ht.2.1) (by omega) ?_
          refine k_iinc (ls' := [some (vR (some a)), some (vI cv), some (vI (st + 1)), some (vI k), some (vI x), some (vI 0)]) i_76_111 rfl (by omega) rfl ?_
          refine k_iinc (ls' := [some (vR (some a)), some (vI cv), some (vI (st + 1)), some (vI (k + 1)), some (vI x), some (vI 0)]) i_76_114 rfl (by omega) rfl ?_
          refine k_goto (t := 19) i_76_117 rfl ?_
          have hst : stays K (olderF T) (decide (6 ≤ (tQ T).length)) x = true := by
            unfold stays
            rw [decide_eq_true (show tS (olderF T) x ≤ bears K (olderF T) x by rw [hso, ← hbb, ← hbr]; omega)]
            simp
          have hfk : ((tQ T).take (k + 1).toNat).filter (stays K (olderF T) (decide (6 ≤ (tQ T).length))) = ((tQ T).take k.toNat).filter (stays K (olderF T) (decide (6 ≤ (tQ T).length))) ++ [x] := by
            rw [show (k + 1).toNat = k.toNat + 1 by omega, take_s (by omega), List.filter_append, ← hx]
            simp [hst]
          refine ih (k + 1) _ _ _ _ (by omega) ?_ ?_ ((ho.mu (by omega)).mu (by omega)) (by omega)
          · rw [hfk, List.length_append]; simp only [List.length_cons, List.length_nil]; omega
          rw [show (k + 1).toNat = k.toNat + 1 by omega] at hfk ⊢
          refine ⟨?_, ?_, ?_, ?_, ?_, ?_, ?_, ?_⟩
          · rw [mu_ne (by omega), mu_ne (by omega)]; exact r6
          · rw [mu_ne (by omega), mu_ne (by omega)]; exact r7
          · rw [mu_ne (by omega), mu_ne (by omega)]; exact r8
          · rw [mu_ne (by omega), mu_ne (by omega)]; exact r9
          · rw [mu_ne (by omega), mu_ne (by omega)]; exact r10
          · intro j p hj
            rw [hfk] at hj
            by_cases c1 : j < (((tQ T).take k.toNat).filter (stays K (olderF T) (decide (6 ≤ (tQ T).length)))).length
            · rw [List.getElem?_append_left c1] at hj
              rw [mu_j (by omega), mu_ne (by omega)]
              exact rq1 j p hj
            · have hj2 := (List.getElem?_eq_some_iff.mp hj).1
              simp only [List.length_append, List.length_cons, List.length_nil] at hj2
              have hje : j = (((tQ T).take k.toNat).filter (stays K (olderF T) (decide (6 ≤ (tQ T).length)))).length := by omega
              rw [List.getElem?_append_right (by omega), hje, Nat.sub_self] at hj
              cases hj
              rw [hje, ← hs, mu_s]
          · intro j p hkj hj
            rw [mu_j (by omega), mu_ne (by omega)]
            exact rq2 j p (by omega) hj
          · intro p hp
            obtain ⟨f2, f3, f4, f5⟩ := rp p hp
            refine ⟨by rw [mu_ne (by omega), mu_ne (by omega)]; exact f2, ?_, ?_, by rw [mu_ne (by omega), mu_ne (by omega)]; exact f5⟩
            · rw [mu_ne (by omega), mu_ne (by omega), f3]
              unfold leaveW
              by_cases e : p = x
              · subst e
                rw [if_neg (fun q => by have := q.2.2; rw [hst] at this; cases this), if_neg (fun q => by have := q.2.2; rw [hst] at this; cases this)]
              · have e3 : (tQ (olderF T)).idxOf p < k.toNat + 1 ↔ (tQ (olderF T)).idxOf p < k.toNat := ⟨fun q => ((idx_s hT.1 (by omega) p).mp q).resolve_right (by rw [← hx]; exact e), fun q => by omega⟩
                simp only [e3]
            · rw [mu_ne (by omega)]
              by_cases e : p = x
              · subst e
                rw [mu_s, if_pos (by rw [hix]; omega), e4x]
              · rw [mu_j e, f4]
                have e3 : (tQ T).idxOf p < k.toNat + 1 ↔ (tQ T).idxOf p < k.toNat := ⟨fun q => ((idx_s hT.1 (by omega) p).mp q).resolve_right (by rw [← hx]; exact e), fun q => by omega⟩
                simp only [e3]
        · refine k_iload i_76_87 rfl ?_
          refine k_if_ne (t := 103) i_76_89 rfl (fun h89 => absurd h89 (by decide)) (fun h89 => ?_)
          refine k_aload_n i_76_92 rfl ?_
          refine k_getR (r := (a + 3)) i_76_93 o_76 rfl (by decide) (ht.1) rfl ?_
          refine k_iload i_76_96 rfl ?_
          refine k_iconst i_76_98 (by decide) ?_
          refine k_iast i_76_99 (ht.2.2.2.1) (by omega) ?_
          refine k_goto (t := 114) i_76_100 rfl ?_
          refine k_iinc (ls' := [some (vR (some a)), some (vI cv), some (vI st), some (vI (k + 1)), some (vI x), some (vI 0)]) i_76_114 rfl (by omega) rfl ?_
          refine k_goto (t := 19) i_76_117 rfl ?_
          have hst : stays K (olderF T) (decide (6 ≤ (tQ T).length)) x = false := by
            unfold stays
            rw [decide_eq_false (show ¬ tS (olderF T) x ≤ bears K (olderF T) x by rw [hso, ← hbb, ← hbr]; omega)]
            simp only [Bool.or_false, Bool.and_eq_false_iff, decide_eq_false_iff_not]
            omega
          have hfk : ((tQ T).take (k + 1).toNat).filter (stays K (olderF T) (decide (6 ≤ (tQ T).length))) = ((tQ T).take k.toNat).filter (stays K (olderF T) (decide (6 ≤ (tQ T).length))) := by
            rw [show (k + 1).toNat = k.toNat + 1 by omega, take_s (by omega), List.filter_append, ← hx]
            simp [hst]
          refine ih (k + 1) _ _ _ _ (by omega) ?_ ?_ ((ho.mu (by omega)).mu (by omega)) (by omega)
          · rw [hfk]; exact hs
          rw [show (k + 1).toNat = k.toNat + 1 by omega] at hfk ⊢
          refine ⟨?_, ?_, ?_, ?_, ?_, ?_, ?_, ?_⟩
          · rw [mu_ne (by omega), mu_ne (by omega)]; exact r6
          · rw [mu_ne (by omega), mu_ne (by omega)]; exact r7
          · rw [mu_ne (by omega), mu_ne (by omega)]; exact r8
          · rw [mu_ne (by omega), mu_ne (by omega)]; exact r9
          · rw [mu_ne (by omega), mu_ne (by omega)]; exact r10
          · intro j p hj
            rw [hfk] at hj
            rw [mu_ne (by omega), mu_ne (by omega)]
            exact rq1 j p hj
          · intro j p hkj hj
            rw [mu_ne (by omega), mu_ne (by omega)]
            exact rq2 j p (by omega) hj
          · intro p hp
            obtain ⟨f2, f3, f4, f5⟩ := rp p hp
            refine ⟨by rw [mu_ne (by omega), mu_ne (by omega)]; exact f2, ?_, ?_, by rw [mu_ne (by omega), mu_ne (by omega)]; exact f5⟩
            · unfold leaveW
              by_cases e : p = x
              · subst e
                rw [mu_s, if_pos ⟨Nat.zero_le _, (by show (tQ T).idxOf p < _; rw [hix]; omega), hst⟩]
              · rw [mu_j e, mu_ne (by omega), f3]
                unfold leaveW
                have e3 : (tQ (olderF T)).idxOf p < k.toNat + 1 ↔ (tQ (olderF T)).idxOf p < k.toNat := ⟨fun q => ((idx_s hT.1 (by omega) p).mp q).resolve_right (by rw [← hx]; exact e), fun q => by omega⟩
                simp only [e3]
            · rw [mu_ne (by omega)]
              by_cases e : p = x
              · subst e
                rw [mu_s, if_pos (by rw [hix]; omega), e4x]
              · rw [mu_j e, f4]
                have e3 : (tQ T).idxOf p < k.toNat + 1 ↔ (tQ T).idxOf p < k.toNat := ⟨fun q => ((idx_s hT.1 (by omega) p).mp q).resolve_right (by rw [← hx]; exact e), fun q => by omega⟩
                simp only [e3]
      · refine k_aload_n i_76_50 rfl ?_
        refine k_getR (r := 20) i_76_51 o_76 rfl (by decide) (ht.1) rfl ?_
        refine k_getR (r := 21) i_76_54 o_76 rfl (by decide) (s_20) rfl ?_
        refine k_iload i_76_57 rfl ?_
        refine k_iald i_76_59 (s_21) (by omega) ?_
        rw [mu_ne (M := M) (a := (a + 4)) (b := 21) (i := x) (x := (M (a + 4) x) + 1) (by omega)]
        refine k_iconst i_76_60 (by decide) ?_
        refine k_icmp_ne (t := 68) i_76_61 rfl (fun h61 => ?_) (fun h61 => ?_)
        · refine k_iconst i_76_68 (by decide) ?_
          refine k_istore (ls' := [some (vR (some a)), some (vI cv), some (vI st), some (vI k), some (vI x), some (vI 0)]) i_76_69 rfl ?_
          refine k_aload_n i_76_71 rfl ?_
          refine k_getR (r := (a + 4)) i_76_72 o_76 rfl (by decide) (ht.1) rfl ?_
          refine k_iload i_76_75 rfl ?_
          refine k_iald i_76_77 (ht.2.2.2.2.1) (by omega) ?_
          rw [mu_s M (a + 4) (x) ((M (a + 4) x) + 1)]
          refine k_aload_n i_76_78 rfl ?_
          refine k_iload i_76_79 rfl ?_
          refine k_invV (n := 1) (o' := 6) (av := [vR (some a), vI x]) (rest := [vI ((M (a + 4) x) + 1)]) (el := [some (vR (some a)), some (vI x), none, none, none]) i_76_81 o_76 rfl v_77 rfl (ht.1) rfl rfl rfl rfl rfl ?_
          refine c_77 ht hrm hKo hK2 hP2 hvx (by rw [hsx]; omega) (fun br hbr => ?_)
          show Ok _ 76 84 [some (vR (some a)), some (vI cv), some (vI st), some (vI k), some (vI x), some (vI 0)] [vI br, vI ((M (a + 4) x) + 1)] (mu M (a + 4) (x) ((M (a + 4) x) + 1)) _
          refine k_icmp_le (t := 103) i_76_84 rfl (fun h84 => ?_) (fun h84 => ?_)
          · refine k_aload_n i_76_103 rfl ?_
            refine k_getR (r := (a + 1)) i_76_104 o_76 rfl (by decide) (ht.1) rfl ?_
            refine k_iload_n i_76_107 rfl ?_
            refine k_iload i_76_108 rfl ?_
            refine k_iast i_76_110 (ht.2.1) (by omega) ?_
            refine k_iinc (ls' := [some (vR (some a)), some (vI cv), some (vI (st + 1)), some (vI k), some (vI x), some (vI 0)]) i_76_111 rfl (by omega) rfl ?_
            refine k_iinc (ls' := [some (vR (some a)), some (vI cv), some (vI (st + 1)), some (vI (k + 1)), some (vI x), some (vI 0)]) i_76_114 rfl (by omega) rfl ?_
            refine k_goto (t := 19) i_76_117 rfl ?_
            have hst : stays K (olderF T) (decide (6 ≤ (tQ T).length)) x = true := by
              unfold stays
              rw [decide_eq_true (show tS (olderF T) x ≤ bears K (olderF T) x by rw [hso, ← hbb, ← hbr]; omega)]
              simp
            have hfk : ((tQ T).take (k + 1).toNat).filter (stays K (olderF T) (decide (6 ≤ (tQ T).length))) = ((tQ T).take k.toNat).filter (stays K (olderF T) (decide (6 ≤ (tQ T).length))) ++ [x] := by
              rw [show (k + 1).toNat = k.toNat + 1 by omega, take_s (by omega), List.filter_append, ← hx]
              simp [hst]
            refine ih (k + 1) _ _ _ _ (by omega) ?_ ?_ ((ho.mu (by omega)).mu (by omega)) (by omega)
            · rw [hfk, List.length_append]; simp only [List.length_cons, List.length_nil]; omega
            rw [show (k + 1).toNat = k.toNat + 1 by omega] at hfk ⊢
            refine ⟨?_, ?_, ?_, ?_, ?_, ?_, ?_, ?_⟩
            · rw [mu_ne (by omega), mu_ne (by omega)]; exact r6
            · rw [mu_ne (by omega), mu_ne (by omega)]; exact r7
            · rw [mu_ne (by omega), mu_ne (by omega)]; exact r8
            · rw [mu_ne (by omega), mu_ne (by omega)]; exact r9
            · rw [mu_ne (by omega), mu_ne (by omega)]; exact r10
            · intro j p hj
              rw [hfk] at hj
              by_cases c1 : j < (((tQ T).take k.toNat).filter (stays K (olderF T) (decide (6 ≤ (tQ T).length)))).length
              · rw [List.getElem?_append_left c1] at hj
                rw [mu_j (by omega), mu_ne (by omega)]
                exact rq1 j p hj
              · have hj2 := (List.getElem?_eq_some_iff.mp hj).1
                simp only [List.length_append, List.length_cons, List.length_nil] at hj2
                have hje : j = (((tQ T).take k.toNat).filter (stays K (olderF T) (decide (6 ≤ (tQ T).length)))).length := by omega
                rw [List.getElem?_append_right (by omega), hje, Nat.sub_self] at hj
                cases hj
                rw [hje, ← hs, mu_s]
            · intro j p hkj hj
              rw [mu_j (by omega), mu_ne (by omega)]
              exact rq2 j p (by omega) hj
            · intro p hp
              obtain ⟨f2, f3, f4, f5⟩ := rp p hp
              refine ⟨by rw [mu_ne (by omega), mu_ne (by omega)]; exact f2, ?_, ?_, by rw [mu_ne (by omega), mu_ne (by omega)]; exact f5⟩
              · rw [mu_ne (by omega), mu_ne (by omega), f3]
                unfold leaveW
                by_cases e : p = x
                · subst e
                  rw [if_neg (fun q => by have := q.2.2; rw [hst] at this; cases this), if_neg (fun q => by have := q.2.2; rw [hst] at this; cases this)]
                · have e3 : (tQ (olderF T)).idxOf p < k.toNat + 1 ↔ (tQ (olderF T)).idxOf p < k.toNat := ⟨fun q => ((idx_s hT.1 (by omega) p).mp q).resolve_right (by rw [← hx]; exact e), fun q => by omega⟩
                  simp only [e3]
              · rw [mu_ne (by omega)]
                by_cases e : p = x
                · subst e
                  rw [mu_s, if_pos (by rw [hix]; omega), e4x]
                · rw [mu_j e, f4]
                  have e3 : (tQ T).idxOf p < k.toNat + 1 ↔ (tQ T).idxOf p < k.toNat := ⟨fun q => ((idx_s hT.1 (by omega) p).mp q).resolve_right (by rw [← hx]; exact e), fun q => by omega⟩
                  simp only [e3]
          · refine k_iload i_76_87 rfl ?_
            refine k_if_ne (t := 103) i_76_89 rfl (fun h89 => absurd h89 (by decide)) (fun h89 => ?_)
            refine k_aload_n i_76_92 rfl ?_
            refine k_getR (r := (a + 3)) i_76_93 o_76 rfl (by decide) (ht.1) rfl ?_
            refine k_iload i_76_96 rfl ?_
            refine k_iconst i_76_98 (by decide) ?_
            refine k_iast i_76_99 (ht.2.2.2.1) (by omega) ?_
            refine k_goto (t := 114) i_76_100 rfl ?_
            refine k_iinc (ls' := [some (vR (some a)), some (vI cv), some (vI st), some (vI (k + 1)), some (vI x), some (vI 0)]) i_76_114 rfl (by omega) rfl ?_
            refine k_goto (t := 19) i_76_117 rfl ?_
            have hst : stays K (olderF T) (decide (6 ≤ (tQ T).length)) x = false := by
              unfold stays
              rw [decide_eq_false (show ¬ tS (olderF T) x ≤ bears K (olderF T) x by rw [hso, ← hbb, ← hbr]; omega)]
              simp only [Bool.or_false, Bool.and_eq_false_iff, decide_eq_false_iff_not]
              omega
            have hfk : ((tQ T).take (k + 1).toNat).filter (stays K (olderF T) (decide (6 ≤ (tQ T).length))) = ((tQ T).take k.toNat).filter (stays K (olderF T) (decide (6 ≤ (tQ T).length))) := by
              rw [show (k + 1).toNat = k.toNat + 1 by omega, take_s (by omega), List.filter_append, ← hx]
              simp [hst]
            refine ih (k + 1) _ _ _ _ (by omega) ?_ ?_ ((ho.mu (by omega)).mu (by omega)) (by omega)
            · rw [hfk]; exact hs
            rw [show (k + 1).toNat = k.toNat + 1 by omega] at hfk ⊢
            refine ⟨?_, ?_, ?_, ?_, ?_, ?_, ?_, ?_⟩
            · rw [mu_ne (by omega), mu_ne (by omega)]; exact r6
            · rw [mu_ne (by omega), mu_ne (by omega)]; exact r7
            · rw [mu_ne (by omega), mu_ne (by omega)]; exact r8
            · rw [mu_ne (by omega), mu_ne (by omega)]; exact r9
            · rw [mu_ne (by omega), mu_ne (by omega)]; exact r10
            · intro j p hj
              rw [hfk] at hj
              rw [mu_ne (by omega), mu_ne (by omega)]
              exact rq1 j p hj
            · intro j p hkj hj
              rw [mu_ne (by omega), mu_ne (by omega)]
              exact rq2 j p (by omega) hj
            · intro p hp
              obtain ⟨f2, f3, f4, f5⟩ := rp p hp
              refine ⟨by rw [mu_ne (by omega), mu_ne (by omega)]; exact f2, ?_, ?_, by rw [mu_ne (by omega), mu_ne (by omega)]; exact f5⟩
              · unfold leaveW
                by_cases e : p = x
                · subst e
                  rw [mu_s, if_pos ⟨Nat.zero_le _, (by show (tQ T).idxOf p < _; rw [hix]; omega), hst⟩]
                · rw [mu_j e, mu_ne (by omega), f3]
                  unfold leaveW
                  have e3 : (tQ (olderF T)).idxOf p < k.toNat + 1 ↔ (tQ (olderF T)).idxOf p < k.toNat := ⟨fun q => ((idx_s hT.1 (by omega) p).mp q).resolve_right (by rw [← hx]; exact e), fun q => by omega⟩
                  simp only [e3]
              · rw [mu_ne (by omega)]
                by_cases e : p = x
                · subst e
                  rw [mu_s, if_pos (by rw [hix]; omega), e4x]
                · rw [mu_j e, f4]
                  have e3 : (tQ T).idxOf p < k.toNat + 1 ↔ (tQ T).idxOf p < k.toNat := ⟨fun q => ((idx_s hT.1 (by omega) p).mp q).resolve_right (by rw [← hx]; exact e), fun q => by omega⟩
                  simp only [e3]
        · refine k_iconst i_76_64 (by decide) ?_
          refine k_goto (t := 69) i_76_65 rfl ?_
          refine k_istore (ls' := [some (vR (some a)), some (vI cv), some (vI st), some (vI k), some (vI x), some (vI 1)]) i_76_69 rfl ?_
          refine k_aload_n i_76_71 rfl ?_
          refine k_getR (r := (a + 4)) i_76_72 o_76 rfl (by decide) (ht.1) rfl ?_
          refine k_iload i_76_75 rfl ?_
          refine k_iald i_76_77 (ht.2.2.2.2.1) (by omega) ?_
          rw [mu_s M (a + 4) (x) ((M (a + 4) x) + 1)]
          refine k_aload_n i_76_78 rfl ?_
          refine k_iload i_76_79 rfl ?_
          refine k_invV (n := 1) (o' := 6) (av := [vR (some a), vI x]) (rest := [vI ((M (a + 4) x) + 1)]) (el := [some (vR (some a)), some (vI x), none, none, none]) i_76_81 o_76 rfl v_77 rfl (ht.1) rfl rfl rfl rfl rfl ?_
          refine c_77 ht hrm hKo hK2 hP2 hvx (by rw [hsx]; omega) (fun br hbr => ?_)
          show Ok _ 76 84 [some (vR (some a)), some (vI cv), some (vI st), some (vI k), some (vI x), some (vI 1)] [vI br, vI ((M (a + 4) x) + 1)] (mu M (a + 4) (x) ((M (a + 4) x) + 1)) _
          refine k_icmp_le (t := 103) i_76_84 rfl (fun h84 => ?_) (fun h84 => ?_)
          · refine k_aload_n i_76_103 rfl ?_
            refine k_getR (r := (a + 1)) i_76_104 o_76 rfl (by decide) (ht.1) rfl ?_
            refine k_iload_n i_76_107 rfl ?_
            refine k_iload i_76_108 rfl ?_
            refine k_iast i_76_110 (ht.2.1) (by omega) ?_
            refine k_iinc (ls' := [some (vR (some a)), some (vI cv), some (vI (st + 1)), some (vI k), some (vI x), some (vI 1)]) i_76_111 rfl (by omega) rfl ?_
            refine k_iinc (ls' := [some (vR (some a)), some (vI cv), some (vI (st + 1)), some (vI (k + 1)), some (vI x), some (vI 1)]) i_76_114 rfl (by omega) rfl ?_
            refine k_goto (t := 19) i_76_117 rfl ?_
            have hst : stays K (olderF T) (decide (6 ≤ (tQ T).length)) x = true := by
              unfold stays
              rw [decide_eq_true (show 6 ≤ (tQ T).length by omega), decide_eq_true (show kKd K x = 2 by omega)]
              simp
            have hfk : ((tQ T).take (k + 1).toNat).filter (stays K (olderF T) (decide (6 ≤ (tQ T).length))) = ((tQ T).take k.toNat).filter (stays K (olderF T) (decide (6 ≤ (tQ T).length))) ++ [x] := by
              rw [show (k + 1).toNat = k.toNat + 1 by omega, take_s (by omega), List.filter_append, ← hx]
              simp [hst]
            refine ih (k + 1) _ _ _ _ (by omega) ?_ ?_ ((ho.mu (by omega)).mu (by omega)) (by omega)
            · rw [hfk, List.length_append]; simp only [List.length_cons, List.length_nil]; omega
            rw [show (k + 1).toNat = k.toNat + 1 by omega] at hfk ⊢
            refine ⟨?_, ?_, ?_, ?_, ?_, ?_, ?_, ?_⟩
            · rw [mu_ne (by omega), mu_ne (by omega)]; exact r6
            · rw [mu_ne (by omega), mu_ne (by omega)]; exact r7
            · rw [mu_ne (by omega), mu_ne (by omega)]; exact r8
            · rw [mu_ne (by omega), mu_ne (by omega)]; exact r9
            · rw [mu_ne (by omega), mu_ne (by omega)]; exact r10
            · intro j p hj
              rw [hfk] at hj
              by_cases c1 : j < (((tQ T).take k.toNat).filter (stays K (olderF T) (decide (6 ≤ (tQ T).length)))).length
              · rw [List.getElem?_append_left c1] at hj
                rw [mu_j (by omega), mu_ne (by omega)]
                exact rq1 j p hj
              · have hj2 := (List.getElem?_eq_some_iff.mp hj).1
                simp only [List.length_append, List.length_cons, List.length_nil] at hj2
                have hje : j = (((tQ T).take k.toNat).filter (stays K (olderF T) (decide (6 ≤ (tQ T).length)))).length := by omega
                rw [List.getElem?_append_right (by omega), hje, Nat.sub_self] at hj
                cases hj
                rw [hje, ← hs, mu_s]
            · intro j p hkj hj
              rw [mu_j (by omega), mu_ne (by omega)]
              exact rq2 j p (by omega) hj
            · intro p hp
              obtain ⟨f2, f3, f4, f5⟩ := rp p hp
              refine ⟨by rw [mu_ne (by omega), mu_ne (by omega)]; exact f2, ?_, ?_, by rw [mu_ne (by omega), mu_ne (by omega)]; exact f5⟩
              · rw [mu_ne (by omega), mu_ne (by omega), f3]
                unfold leaveW
                by_cases e : p = x
                · subst e
                  rw [if_neg (fun q => by have := q.2.2; rw [hst] at this; cases this), if_neg (fun q => by have := q.2.2; rw [hst] at this; cases this)]
                · have e3 : (tQ (olderF T)).idxOf p < k.toNat + 1 ↔ (tQ (olderF T)).idxOf p < k.toNat := ⟨fun q => ((idx_s hT.1 (by omega) p).mp q).resolve_right (by rw [← hx]; exact e), fun q => by omega⟩
                  simp only [e3]
              · rw [mu_ne (by omega)]
                by_cases e : p = x
                · subst e
                  rw [mu_s, if_pos (by rw [hix]; omega), e4x]
                · rw [mu_j e, f4]
                  have e3 : (tQ T).idxOf p < k.toNat + 1 ↔ (tQ T).idxOf p < k.toNat := ⟨fun q => ((idx_s hT.1 (by omega) p).mp q).resolve_right (by rw [← hx]; exact e), fun q => by omega⟩
                  simp only [e3]
          · refine k_iload i_76_87 rfl ?_
            refine k_if_ne (t := 103) i_76_89 rfl (fun h89 => ?_) (fun h89 => absurd h89 (by decide))
            refine k_aload_n i_76_103 rfl ?_
            refine k_getR (r := (a + 1)) i_76_104 o_76 rfl (by decide) (ht.1) rfl ?_
            refine k_iload_n i_76_107 rfl ?_
            refine k_iload i_76_108 rfl ?_
            refine k_iast i_76_110 (ht.2.1) (by omega) ?_
            refine k_iinc (ls' := [some (vR (some a)), some (vI cv), some (vI (st + 1)), some (vI k), some (vI x), some (vI 1)]) i_76_111 rfl (by omega) rfl ?_
            refine k_iinc (ls' := [some (vR (some a)), some (vI cv), some (vI (st + 1)), some (vI (k + 1)), some (vI x), some (vI 1)]) i_76_114 rfl (by omega) rfl ?_
            refine k_goto (t := 19) i_76_117 rfl ?_
            have hst : stays K (olderF T) (decide (6 ≤ (tQ T).length)) x = true := by
              unfold stays
              rw [decide_eq_true (show 6 ≤ (tQ T).length by omega), decide_eq_true (show kKd K x = 2 by omega)]
              simp
            have hfk : ((tQ T).take (k + 1).toNat).filter (stays K (olderF T) (decide (6 ≤ (tQ T).length))) = ((tQ T).take k.toNat).filter (stays K (olderF T) (decide (6 ≤ (tQ T).length))) ++ [x] := by
              rw [show (k + 1).toNat = k.toNat + 1 by omega, take_s (by omega), List.filter_append, ← hx]
              simp [hst]
            refine ih (k + 1) _ _ _ _ (by omega) ?_ ?_ ((ho.mu (by omega)).mu (by omega)) (by omega)
            · rw [hfk, List.length_append]; simp only [List.length_cons, List.length_nil]; omega
            rw [show (k + 1).toNat = k.toNat + 1 by omega] at hfk ⊢
            refine ⟨?_, ?_, ?_, ?_, ?_, ?_, ?_, ?_⟩
            · rw [mu_ne (by omega), mu_ne (by omega)]; exact r6
            · rw [mu_ne (by omega), mu_ne (by omega)]; exact r7
            · rw [mu_ne (by omega), mu_ne (by omega)]; exact r8
            · rw [mu_ne (by omega), mu_ne (by omega)]; exact r9
            · rw [mu_ne (by omega), mu_ne (by omega)]; exact r10
            · intro j p hj
              rw [hfk] at hj
              by_cases c1 : j < (((tQ T).take k.toNat).filter (stays K (olderF T) (decide (6 ≤ (tQ T).length)))).length
              · rw [List.getElem?_append_left c1] at hj
                rw [mu_j (by omega), mu_ne (by omega)]
                exact rq1 j p hj
              · have hj2 := (List.getElem?_eq_some_iff.mp hj).1
                simp only [List.length_append, List.length_cons, List.length_nil] at hj2
                have hje : j = (((tQ T).take k.toNat).filter (stays K (olderF T) (decide (6 ≤ (tQ T).length)))).length := by omega
                rw [List.getElem?_append_right (by omega), hje, Nat.sub_self] at hj
                cases hj
                rw [hje, ← hs, mu_s]
            · intro j p hkj hj
              rw [mu_j (by omega), mu_ne (by omega)]
              exact rq2 j p (by omega) hj
            · intro p hp
              obtain ⟨f2, f3, f4, f5⟩ := rp p hp
              refine ⟨by rw [mu_ne (by omega), mu_ne (by omega)]; exact f2, ?_, ?_, by rw [mu_ne (by omega), mu_ne (by omega)]; exact f5⟩
              · rw [mu_ne (by omega), mu_ne (by omega), f3]
                unfold leaveW
                by_cases e : p = x
                · subst e
                  rw [if_neg (fun q => by have := q.2.2; rw [hst] at this; cases this), if_neg (fun q => by have := q.2.2; rw [hst] at this; cases this)]
                · have e3 : (tQ (olderF T)).idxOf p < k.toNat + 1 ↔ (tQ (olderF T)).idxOf p < k.toNat := ⟨fun q => ((idx_s hT.1 (by omega) p).mp q).resolve_right (by rw [← hx]; exact e), fun q => by omega⟩
                  simp only [e3]
              · rw [mu_ne (by omega)]
                by_cases e : p = x
                · subst e
                  rw [mu_s, if_pos (by rw [hix]; omega), e4x]
                · rw [mu_j e, f4]
                  have e3 : (tQ T).idxOf p < k.toNat + 1 ↔ (tQ T).idxOf p < k.toNat := ⟨fun q => ((idx_s hT.1 (by omega) p).mp q).resolve_right (by rw [← hx]; exact e), fun q => by omega⟩
                  simp only [e3]

/-- ElbowQueue$Town.standOn -/
theorem c_76 {d : Nat} {M : Mem} {Q : Option Vv → Mem → Prop} {a rm : Nat} {K : Kt} {m : Int} {T : Tt} (ht : Tw a 20 rm) (hrm : 16 + m ≤ (rm : Int) ∧ (rm : Int) ≤ 28) (hKo : KOk K m) (hK : RepK M 20 K m) (hR : RepC M a K m T) (hT : TOk K m T) (ha : 24 < a) (k : ∀ M', RepC M' a K m (standF K T) → OutT M M' a → Q none M') : Ok (d + 1) 76 0 [some (vR (some a)), none, none, none, none, none] [] M Q := by
  obtain ⟨r6, r7, r8, r9, r10, rq, rp⟩ := id hR
  obtain ⟨u1, u2, u3, u4, u5, u6, u7⟩ := id hT
  obtain ⟨⟨g1, g2, g3, g4, g5, g6, g7, g8⟩, hKp⟩ := id hKo
  refine k_aload_n i_76_0 rfl ?_
  refine k_getI (kz := 9) i_76_1 o_76 rfl (by decide) (ht.1) rfl ?_
  refine k_bipush i_76_4 (by decide) ?_
  refine k_icmp_lt (t := 13) i_76_6 rfl (fun h6 => ?_) (fun h6 => ?_)
  · refine k_iconst i_76_13 (by decide) ?_
    refine k_istore_n (ls' := [some (vR (some a)), some (vI 0), none, none, none, none]) i_76_14 rfl ?_
    refine k_iconst i_76_15 (by decide) ?_
    refine k_istore_n (ls' := [some (vR (some a)), some (vI 0), some (vI 0), none, none, none]) i_76_16 rfl ?_
    refine k_iconst i_76_17 (by decide) ?_
    refine k_istore_n (ls' := [some (vR (some a)), some (vI 0), some (vI 0), some (vI 0), none, none]) i_76_18 rfl ?_
    refine l_76 (cv := 0) ht hrm hKo hT ha hK (by omega) k ((tQ T).length + 1) 0 0 M _ _ (by omega) ?_ ?_ (OutT.rf M a) (by omega)
    · rfl
    refine ⟨r6, r7, r8, r9, r10, ?_, fun j p _ hj => rq j p hj, fun p hp => ?_⟩
    · intro j p hj; simp at hj
    · obtain ⟨f2, f3, f4, f5⟩ := rp p hp
      refine ⟨f2, ?_, ?_, f5⟩
      · rw [f3]; exact (if_neg (fun q => absurd q.2.1 (Nat.not_lt_zero _))).symm
      · rw [f4]; exact (if_neg (Nat.not_lt_zero _)).symm
  · refine k_iconst i_76_9 (by decide) ?_
    refine k_goto (t := 14) i_76_10 rfl ?_
    refine k_istore_n (ls' := [some (vR (some a)), some (vI 1), none, none, none, none]) i_76_14 rfl ?_
    refine k_iconst i_76_15 (by decide) ?_
    refine k_istore_n (ls' := [some (vR (some a)), some (vI 1), some (vI 0), none, none, none]) i_76_16 rfl ?_
    refine k_iconst i_76_17 (by decide) ?_
    refine k_istore_n (ls' := [some (vR (some a)), some (vI 1), some (vI 0), some (vI 0), none, none]) i_76_18 rfl ?_
    refine l_76 (cv := 1) ht hrm hKo hT ha hK (by omega) k ((tQ T).length + 1) 0 0 M _ _ (by omega) ?_ ?_ (OutT.rf M a) (by omega)
    · rfl
    refine ⟨r6, r7, r8, r9, r10, ?_, fun j p _ hj => rq j p hj, fun p hp => ?_⟩
    · intro j p hj; simp at hj
    · obtain ⟨f2, f3, f4, f5⟩ := rp p hp
      refine ⟨f2, ?_, ?_, f5⟩
      · rw [f3]; exact (if_neg (fun q => absurd q.2.1 (Nat.not_lt_zero _))).symm
      · rw [f4]; exact (if_neg (Nat.not_lt_zero _)).symm
