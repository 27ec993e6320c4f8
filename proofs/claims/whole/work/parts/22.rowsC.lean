def mfill (M : Mem) (a : Nat) (lo hi v : Int) : Mem := fun b j => if b = a ∧ lo ≤ j ∧ j < hi then v else M b j
theorem mfill_0 (M : Mem) (a : Nat) (lo v : Int) : mfill M a lo lo v = M := by
  funext b j
  unfold mfill
  rw [if_neg (by omega)]
theorem mfill_s {M : Mem} {a : Nat} {lo hi v : Int} (h : lo ≤ hi) : mu (mfill M a lo hi v) a hi v = mfill M a lo (hi + 1) v := by
  funext b j
  unfold mu mfill
  by_cases e : b = a ∧ j = hi
  · rw [if_pos e, if_pos (by omega)]
  · rw [if_neg e]
    by_cases e2 : b = a ∧ lo ≤ j ∧ j < hi
    · rw [if_pos e2, if_pos (by omega)]
    · rw [if_neg e2, if_neg (by omega)]
/-- a row's cell -/
theorem rw_sh {r : Int} (h : 0 ≤ r ∧ r < 8) : SS[3 + r.toNat]? = some (20, 40, []) := by
  obtain ⟨n, rfl⟩ : ∃ n : Nat, r = n := ⟨r.toNat, by omega⟩
  rw [Int.toNat_natCast]
  rcases (show n = 0 ∨ n = 1 ∨ n = 2 ∨ n = 3 ∨ n = 4 ∨ n = 5 ∨ n = 6 ∨ n = 7 by omega) with rfl | rfl | rfl | rfl | rfl | rfl | rfl | rfl
  · exact s_3
  · exact s_4
  · exact s_5
  · exact s_6
  · exact s_7
  · exact s_8
  · exact s_9
  · exact s_10
theorem rw_rf {r : Int} (h : 0 ≤ r ∧ r < 8) : [some 3, some 4, some 5, some 6, some 7, some 8, some 9, some 10].getD r.toNat none = some (3 + r.toNat) := by
  obtain ⟨n, rfl⟩ : ∃ n : Nat, r = n := ⟨r.toNat, by omega⟩
  rw [Int.toNat_natCast]
  rcases (show n = 0 ∨ n = 1 ∨ n = 2 ∨ n = 3 ∨ n = 4 ∨ n = 5 ∨ n = 6 ∨ n = 7 by omega) with rfl | rfl | rfl | rfl | rfl | rfl | rfl | rfl <;> rfl
/-- an item cut to its lane -/
def cutF (lane v : Int) : Int := if lane = 0 then (Int32.ofInt v).toInt8.toInt32.toInt else if lane = 1 then (Int32.ofInt v).toInt16.toInt32.toInt else v

/-- ElbowQueue.within -/
theorem c_117 {d : Nat} {M : Mem} {Q : Option Vv → Mem → Prop} {x y : Int}  (k : ∀ v : Int, (v = 1 ∧ (0 ≤ x ∧ x ≤ y)) ∨ (v = 0 ∧ ¬ (0 ≤ x ∧ x ≤ y)) → Q (some (vI v)) M) : Ok d 117 0 [some (vI x), some (vI y)] [] M Q := by
  refine k_iload_n i_117_0 rfl ?_
  refine k_if_lt (t := 13) i_117_1 rfl (fun h1 => ?_) (fun h1 => ?_)
  · refine k_iconst i_117_13 (by decide) ?_
    refine k_zret i_117_14 rfl (by omega) ?_
    exact k _ (by omega)
  · refine k_iload_n i_117_4 rfl ?_
    refine k_iload_n i_117_5 rfl ?_
    refine k_icmp_gt (t := 13) i_117_6 rfl (fun h6 => ?_) (fun h6 => ?_)
    · refine k_iconst i_117_13 (by decide) ?_
      refine k_zret i_117_14 rfl (by omega) ?_
      exact k _ (by omega)
    · refine k_iconst i_117_9 (by decide) ?_
      refine k_goto (t := 14) i_117_10 rfl ?_
      refine k_zret i_117_14 rfl (by omega) ?_
      exact k _ (by omega)

/-- ElbowQueue$Rows.isNumber -/
theorem c_45 {d : Nat} {M : Mem} {Q : Option Vv → Mem → Prop} {x : Int}  (k : ∀ v : Int, (v = 1 ∧ (0 ≤ x ∧ x < 8)) ∨ (v = 0 ∧ ¬ (0 ≤ x ∧ x < 8)) → Q (some (vI v)) M) : Ok d 45 0 [some (vI x)] [] M Q := by
  refine k_iload_n i_45_0 rfl ?_
  refine k_if_lt (t := 14) i_45_1 rfl (fun h1 => ?_) (fun h1 => ?_)
  · refine k_iconst i_45_14 (by decide) ?_
    refine k_zret i_45_15 rfl (by omega) ?_
    exact k _ (by omega)
  · refine k_iload_n i_45_4 rfl ?_
    refine k_bipush i_45_5 (by decide) ?_
    refine k_icmp_ge (t := 14) i_45_7 rfl (fun h7 => ?_) (fun h7 => ?_)
    · refine k_iconst i_45_14 (by decide) ?_
      refine k_zret i_45_15 rfl (by omega) ?_
      exact k _ (by omega)
    · refine k_iconst i_45_10 (by decide) ?_
      refine k_goto (t := 15) i_45_11 rfl ?_
      refine k_zret i_45_15 rfl (by omega) ?_
      exact k _ (by omega)

/-- ElbowQueue$Rows.isLane -/
theorem c_46 {d : Nat} {M : Mem} {Q : Option Vv → Mem → Prop} {x : Int}  (k : ∀ v : Int, (v = 1 ∧ (0 ≤ x ∧ x ≤ 2)) ∨ (v = 0 ∧ ¬ (0 ≤ x ∧ x ≤ 2)) → Q (some (vI v)) M) : Ok d 46 0 [some (vI x)] [] M Q := by
  refine k_iload_n i_46_0 rfl ?_
  refine k_if_lt (t := 13) i_46_1 rfl (fun h1 => ?_) (fun h1 => ?_)
  · refine k_iconst i_46_13 (by decide) ?_
    refine k_zret i_46_14 rfl (by omega) ?_
    exact k _ (by omega)
  · refine k_iload_n i_46_4 rfl ?_
    refine k_iconst i_46_5 (by decide) ?_
    refine k_icmp_gt (t := 13) i_46_6 rfl (fun h6 => ?_) (fun h6 => ?_)
    · refine k_iconst i_46_13 (by decide) ?_
      refine k_zret i_46_14 rfl (by omega) ?_
      exact k _ (by omega)
    · refine k_iconst i_46_9 (by decide) ?_
      refine k_goto (t := 14) i_46_10 rfl ?_
      refine k_zret i_46_14 rfl (by omega) ?_
      exact k _ (by omega)

/-- ElbowQueue$Rows.isMissing -/
theorem c_47 {d : Nat} {M : Mem} {Q : Option Vv → Mem → Prop} {r : Int} (hr : 0 ≤ r ∧ r < 8) (k : ∀ v : Int, (v = 1 ∧ (M 12 r = -1)) ∨ (v = 0 ∧ ¬ (M 12 r = -1)) → Q (some (vI v)) M) : Ok d 47 0 [some (vR (some 1)), some (vI r)] [] M Q := by
  refine k_aload_n i_47_0 rfl ?_
  refine k_getR (r := 12) i_47_1 o_47 rfl (by decide) (s_1) rfl ?_
  refine k_iload_n i_47_4 rfl ?_
  refine k_iald i_47_5 (s_12) (by omega) ?_
  refine k_iconst i_47_6 (by decide) ?_
  refine k_icmp_ne (t := 14) i_47_7 rfl (fun h7 => ?_) (fun h7 => ?_)
  · refine k_iconst i_47_14 (by decide) ?_
    refine k_zret i_47_15 rfl (by omega) ?_
    exact k _ (by omega)
  · refine k_iconst i_47_10 (by decide) ?_
    refine k_goto (t := 15) i_47_11 rfl ?_
    refine k_zret i_47_15 rfl (by omega) ?_
    exact k _ (by omega)

/-- ElbowQueue$Rows.laneOf -/
theorem c_48 {d : Nat} {M : Mem} {Q : Option Vv → Mem → Prop} {r : Int} (hr : 0 ≤ r ∧ r < 8) (k : Q (some (vI (M 11 r))) M) : Ok d 48 0 [some (vR (some 1)), some (vI r)] [] M Q := by
  refine k_aload_n i_48_0 rfl ?_
  refine k_getR (r := 11) i_48_1 o_48 rfl (by decide) (s_1) rfl ?_
  refine k_iload_n i_48_4 rfl ?_
  refine k_iald i_48_5 (s_11) (by omega) ?_
  refine k_iret i_48_6 rfl ?_
  exact k

/-- ElbowQueue$Rows.item -/
theorem c_49 {d : Nat} {M : Mem} {Q : Option Vv → Mem → Prop} {r i : Int} (hr : 0 ≤ r ∧ r < 8) (hi : 0 ≤ i ∧ i < 40) (k : Q (some (vI (M (3 + r.toNat) i))) M) : Ok d 49 0 [some (vR (some 1)), some (vI r), some (vI i)] [] M Q := by
  refine k_aload_n i_49_0 rfl ?_
  refine k_getR (r := 2) i_49_1 o_49 rfl (by decide) (s_1) rfl ?_
  refine k_iload_n i_49_4 rfl ?_
  refine k_aald (r := (3 + (r).toNat)) i_49_5 (s_2) (by decide) (by omega) (rw_rf (by omega)) ?_
  refine k_iload_n i_49_6 rfl ?_
  refine k_iald i_49_7 (rw_sh (r := r) (by omega)) (by omega) ?_
  refine k_iret i_49_8 rfl ?_
  exact k

/-- ElbowQueue$Rows.spans -/
theorem c_50 {d : Nat} {M : Mem} {Q : Option Vv → Mem → Prop} {r i n : Int} (hr : 0 ≤ r ∧ r < 8) (hz : -1 ≤ M 12 r ∧ M 12 r ≤ 40) (k : ∀ v : Int, (v = 1 ∧ (0 ≤ i ∧ 0 ≤ n ∧ i ≤ M 12 r ∧ n ≤ M 12 r - i)) ∨ (v = 0 ∧ ¬ (0 ≤ i ∧ 0 ≤ n ∧ i ≤ M 12 r ∧ n ≤ M 12 r - i)) → Q (some (vI v)) M) : Ok d 50 0 [some (vR (some 1)), some (vI r), some (vI i), some (vI n)] [] M Q := by
  refine k_iload_n i_50_0 rfl ?_
  refine k_if_lt (t := 34) i_50_1 rfl (fun h1 => ?_) (fun h1 => ?_)
  · refine k_iconst i_50_34 (by decide) ?_
    refine k_zret i_50_35 rfl (by omega) ?_
    exact k _ (by omega)
  · refine k_iload_n i_50_4 rfl ?_
    refine k_if_lt (t := 34) i_50_5 rfl (fun h5 => ?_) (fun h5 => ?_)
    · refine k_iconst i_50_34 (by decide) ?_
      refine k_zret i_50_35 rfl (by omega) ?_
      exact k _ (by omega)
    · refine k_iload_n i_50_8 rfl ?_
      refine k_aload_n i_50_9 rfl ?_
      refine k_getR (r := 12) i_50_10 o_50 rfl (by decide) (s_1) rfl ?_
      refine k_iload_n i_50_13 rfl ?_
      refine k_iald i_50_14 (s_12) (by omega) ?_
      refine k_icmp_gt (t := 34) i_50_15 rfl (fun h15 => ?_) (fun h15 => ?_)
      · refine k_iconst i_50_34 (by decide) ?_
        refine k_zret i_50_35 rfl (by omega) ?_
        exact k _ (by omega)
      · refine k_iload_n i_50_18 rfl ?_
        refine k_aload_n i_50_19 rfl ?_
        refine k_getR (r := 12) i_50_20 o_50 rfl (by decide) (s_1) rfl ?_
        refine k_iload_n i_50_23 rfl ?_
        refine k_iald i_50_24 (s_12) (by omega) ?_
        refine k_iload_n i_50_25 rfl ?_
        refine k_isub i_50_26 (by omega) ?_
        refine k_icmp_gt (t := 34) i_50_27 rfl (fun h27 => ?_) (fun h27 => ?_)
        · refine k_iconst i_50_34 (by decide) ?_
          refine k_zret i_50_35 rfl (by omega) ?_
          exact k _ (by omega)
        · refine k_iconst i_50_30 (by decide) ?_
          refine k_goto (t := 35) i_50_31 rfl ?_
          refine k_zret i_50_35 rfl (by omega) ?_
          exact k _ (by omega)

theorem l_51 {d : Nat} {M : Mem} {Q : Option Vv → Mem → Prop} {r lane n : Int} (hr : 0 ≤ r ∧ r < 8) (hn : 0 ≤ n ∧ n ≤ 40) (k : Q none (mfill (mu (mu M 11 r lane) 12 r n) (3 + r.toNat) 0 n 0)) : ∀ (f : Nat) (i : Int), (0 ≤ i ∧ i ≤ n) → (n - i).toNat < f → Ok d 51 17 [some (vR (some 1)), some (vI r), some (vI lane), some (vI n), some (vI i)] [] (mfill (mu (mu M 11 r lane) 12 r n) (3 + r.toNat) 0 i 0) Q := by
  intro f
  induction f with
  | zero => intro i hi hf; exact absurd hf (Nat.not_lt_zero _)
  | succ f ih =>
    intro i hi hf
    refine k_iload i_51_17 rfl ?_
    refine k_iload_n i_51_19 rfl ?_
    refine k_icmp_ge (t := 39) i_51_20 rfl (fun h20 => ?_) (fun h20 => ?_)
    · refine k_vret i_51_39 rfl ?_
      obtain rfl : i = n := by omega
      exact k
    · refine k_aload_n i_51_23 rfl ?_
      refine k_getR (r := 2) i_51_24 o_51 rfl (by decide) (s_1) rfl ?_
      refine k_iload_n i_51_27 rfl ?_
      refine k_aald (r := (3 + (r).toNat)) i_51_28 (s_2) (by decide) (by omega) (rw_rf (by omega)) ?_
      refine k_iload i_51_29 rfl ?_
      refine k_iconst i_51_31 (by decide) ?_
      refine k_iast i_51_32 (rw_sh hr) (by omega) ?_
      refine k_iinc (ls' := [some (vR (some 1)), some (vI r), some (vI lane), some (vI n), some (vI (i + 1))]) i_51_33 rfl (by omega) rfl ?_
      refine k_goto (t := 17) i_51_36 rfl ?_
      rw [mfill_s (by omega)]
      exact ih (i + 1) (by omega) (by omega)

/-- ElbowQueue$Rows.lay -/
theorem c_51 {d : Nat} {M : Mem} {Q : Option Vv → Mem → Prop} {r lane n : Int} (hr : 0 ≤ r ∧ r < 8) (hn : 0 ≤ n ∧ n ≤ 40) (k : Q none (mfill (mu (mu M 11 r lane) 12 r n) (3 + r.toNat) 0 n 0)) : Ok d 51 0 [some (vR (some 1)), some (vI r), some (vI lane), some (vI n), none] [] M Q := by
  refine k_aload_n i_51_0 rfl ?_
  refine k_getR (r := 11) i_51_1 o_51 rfl (by decide) (s_1) rfl ?_
  refine k_iload_n i_51_4 rfl ?_
  refine k_iload_n i_51_5 rfl ?_
  refine k_iast i_51_6 (s_11) (by omega) ?_
  refine k_aload_n i_51_7 rfl ?_
  refine k_getR (r := 12) i_51_8 o_51 rfl (by decide) (s_1) rfl ?_
  refine k_iload_n i_51_11 rfl ?_
  refine k_iload_n i_51_12 rfl ?_
  refine k_iast i_51_13 (s_12) (by omega) ?_
  refine k_iconst i_51_14 (by decide) ?_
  refine k_istore (ls' := [some (vR (some 1)), some (vI r), some (vI lane), some (vI n), some (vI 0)]) i_51_15 rfl ?_
  rw [← mfill_0 (mu (mu M 11 r lane) 12 r n) (3 + r.toNat) 0 0]
  exact l_51 hr hn k (n.toNat + 1) 0 (by omega) (by omega)

/-- ElbowQueue$Rows.put -/
theorem c_52 {d : Nat} {M : Mem} {Q : Option Vv → Mem → Prop} {r i v : Int} (hr : 0 ≤ r ∧ r < 8) (hi : 0 ≤ i ∧ i < 40) (k : Q (some (vI (cutF (M 11 r) v))) (mu M (3 + r.toNat) i (cutF (M 11 r) v))) : Ok d 52 0 [some (vR (some 1)), some (vI r), some (vI i), some (vI v), none] [] M Q := by
  refine k_iload_n i_52_0 rfl ?_
  refine k_istore (ls' := [some (vR (some 1)), some (vI r), some (vI i), some (vI v), some (vI v)]) i_52_1 rfl ?_
  refine k_aload_n i_52_3 rfl ?_
  refine k_getR (r := 11) i_52_4 o_52 rfl (by decide) (s_1) rfl ?_
  refine k_iload_n i_52_7 rfl ?_
  refine k_iald i_52_8 (s_11) (by omega) ?_
  refine k_if_ne (t := 19) i_52_9 rfl (fun h9 => ?_) (fun h9 => ?_)
  · refine k_aload_n i_52_19 rfl ?_
    refine k_getR (r := 11) i_52_20 o_52 rfl (by decide) (s_1) rfl ?_
    refine k_iload_n i_52_23 rfl ?_
    refine k_iald i_52_24 (s_11) (by omega) ?_
    refine k_iconst i_52_25 (by decide) ?_
    refine k_icmp_ne (t := 33) i_52_26 rfl (fun h26 => ?_) (fun h26 => ?_)
    · refine k_aload_n i_52_33 rfl ?_
      refine k_getR (r := 2) i_52_34 o_52 rfl (by decide) (s_1) rfl ?_
      refine k_iload_n i_52_37 rfl ?_
      refine k_aald (r := (3 + (r).toNat)) i_52_38 (s_2) (by decide) (by omega) (rw_rf (by omega)) ?_
      refine k_iload_n i_52_39 rfl ?_
      refine k_iload i_52_40 rfl ?_
      refine k_iast i_52_42 (rw_sh (r := r) (by omega)) (by omega) ?_
      refine k_iload i_52_43 rfl ?_
      refine k_iret i_52_45 rfl ?_
      have ec : cutF (M 11 r) v = v := by unfold cutF; simp [*]
      rw [ec] at k
      exact k
    · refine k_iload_n i_52_29 rfl ?_
      refine k_i2s (z := (Int32.ofInt v).toInt16.toInt32.toInt) i_52_30 rfl ?_
      refine k_istore (ls' := [some (vR (some 1)), some (vI r), some (vI i), some (vI v), some (vI ((Int32.ofInt v).toInt16.toInt32.toInt))]) i_52_31 rfl ?_
      refine k_aload_n i_52_33 rfl ?_
      refine k_getR (r := 2) i_52_34 o_52 rfl (by decide) (s_1) rfl ?_
      refine k_iload_n i_52_37 rfl ?_
      refine k_aald (r := (3 + (r).toNat)) i_52_38 (s_2) (by decide) (by omega) (rw_rf (by omega)) ?_
      refine k_iload_n i_52_39 rfl ?_
      refine k_iload i_52_40 rfl ?_
      refine k_iast i_52_42 (rw_sh (r := r) (by omega)) (by omega) ?_
      refine k_iload i_52_43 rfl ?_
      refine k_iret i_52_45 rfl ?_
      have ec : cutF (M 11 r) v = (Int32.ofInt v).toInt16.toInt32.toInt := by unfold cutF; simp [*]
      rw [ec] at k
      exact k
  · refine k_iload_n i_52_12 rfl ?_
    refine k_i2b (z := (Int32.ofInt v).toInt8.toInt32.toInt) i_52_13 rfl ?_
    refine k_istore (ls' := [some (vR (some 1)), some (vI r), some (vI i), some (vI v), some (vI ((Int32.ofInt v).toInt8.toInt32.toInt))]) i_52_14 rfl ?_
    refine k_goto (t := 33) i_52_16 rfl ?_
    refine k_aload_n i_52_33 rfl ?_
    refine k_getR (r := 2) i_52_34 o_52 rfl (by decide) (s_1) rfl ?_
    refine k_iload_n i_52_37 rfl ?_
    refine k_aald (r := (3 + (r).toNat)) i_52_38 (s_2) (by decide) (by omega) (rw_rf (by omega)) ?_
    refine k_iload_n i_52_39 rfl ?_
    refine k_iload i_52_40 rfl ?_
    refine k_iast i_52_42 (rw_sh (r := r) (by omega)) (by omega) ?_
    refine k_iload i_52_43 rfl ?_
    refine k_iret i_52_45 rfl ?_
    have ec : cutF (M 11 r) v = (Int32.ofInt v).toInt8.toInt32.toInt := by unfold cutF; simp [*]
    rw [ec] at k
    exact k

/-- ElbowQueue$Rows.bring -/
theorem c_53 {d : Nat} {M : Mem} {Q : Option Vv → Mem → Prop} {a i b j n : Int} (ha : 0 ≤ a ∧ a < 8) (hb : 0 ≤ b ∧ b < 8) (hn : 0 ≤ n ∧ 0 ≤ i ∧ 0 ≤ j ∧ i + n ≤ 40 ∧ j + n ≤ 40) (k : Q none (mcp M (3 + a.toNat) i (3 + b.toNat) j n)) : Ok d 53 0 [some (vR (some 1)), some (vI a), some (vI i), some (vI b), some (vI j), some (vI n)] [] M Q := by
  refine k_aload_n i_53_0 rfl ?_
  refine k_getR (r := 2) i_53_1 o_53 rfl (by decide) (s_1) rfl ?_
  refine k_iload_n i_53_4 rfl ?_
  refine k_aald (r := (3 + (a).toNat)) i_53_5 (s_2) (by decide) (by omega) (rw_rf (by omega)) ?_
  refine k_iload_n i_53_6 rfl ?_
  refine k_aload_n i_53_7 rfl ?_
  refine k_getR (r := 2) i_53_8 o_53 rfl (by decide) (s_1) rfl ?_
  refine k_iload_n i_53_11 rfl ?_
  refine k_aald (r := (3 + (b).toNat)) i_53_12 (s_2) (by decide) (by omega) (rw_rf (by omega)) ?_
  refine k_iload i_53_13 rfl ?_
  refine k_iload i_53_15 rfl ?_
  refine k_copy i_53_17 o_53 rfl (rw_sh ha) (rw_sh hb) (by omega) rfl ?_
  refine k_vret i_53_20 rfl ?_
  exact k

/-- ElbowQueue$Rows.takeAway -/
theorem c_54 {d : Nat} {M : Mem} {Q : Option Vv → Mem → Prop} {r : Int} (hr : 0 ≤ r ∧ r < 8) (k : Q (some (vI (M 12 r))) (mu M 12 r (-1))) : Ok d 54 0 [some (vR (some 1)), some (vI r), none] [] M Q := by
  refine k_aload_n i_54_0 rfl ?_
  refine k_getR (r := 12) i_54_1 o_54 rfl (by decide) (s_1) rfl ?_
  refine k_iload_n i_54_4 rfl ?_
  refine k_iald i_54_5 (s_12) (by omega) ?_
  refine k_istore_n (ls' := [some (vR (some 1)), some (vI r), some (vI (M 12 r))]) i_54_6 rfl ?_
  refine k_aload_n i_54_7 rfl ?_
  refine k_getR (r := 12) i_54_8 o_54 rfl (by decide) (s_1) rfl ?_
  refine k_iload_n i_54_11 rfl ?_
  refine k_iconst i_54_12 (by decide) ?_
  refine k_iast i_54_13 (s_12) (by omega) ?_
  refine k_iload_n i_54_14 rfl ?_
  refine k_iret i_54_15 rfl ?_
  exact k

/-- how many of the first n of a cell's ints are not z -/
def cntN (f : Int → Int) (z : Int) : Nat → Int
  | 0 => 0
  | n + 1 => cntN f z n + (if f n = z then 0 else 1)
theorem cntN_le (f : Int → Int) (z : Int) : ∀ n : Nat, 0 ≤ cntN f z n ∧ cntN f z n ≤ n
  | 0 => by simp [cntN]
  | n + 1 => by
    have h := cntN_le f z n
    unfold cntN
    split <;> omega
theorem cntN_s (f : Int → Int) (z : Int) {i : Int} (h : 0 ≤ i) : cntN f z (i + 1).toNat = cntN f z i.toNat + (if f i = z then 0 else 1) := by
  obtain ⟨n, rfl⟩ : ∃ n : Nat, i = n := ⟨i.toNat, by omega⟩
  rw [show ((n : Int) + 1).toNat = n + 1 by omega, Int.toNat_natCast]
  rfl

theorem l_55 {d : Nat} {M : Mem} {Q : Option Vv → Mem → Prop}   (k : Q (some (vI (cntN (M 12) (-1) 8))) M) : ∀ (f : Nat) (i : Int) (c : Int), (0 ≤ i ∧ i ≤ 8) → (c = cntN (M 12) (-1) i.toNat) → (8 - i).toNat < f → Ok d 55 4 [some (vR (some 1)), some (vI c), some (vI i)] [] M Q := by
  intro f
  induction f with
  | zero => intro i c hi hc hf; exact absurd hf (Nat.not_lt_zero _)
  | succ f ih =>
    intro i c hi hc hf
    have hcl := cntN_le (M 12) (-1) i.toNat
    rw [← hc] at hcl
    refine k_iload_n i_55_4 rfl ?_
    refine k_bipush i_55_5 (by decide) ?_
    refine k_icmp_ge (t := 29) i_55_7 rfl (fun h7 => ?_) (fun h7 => ?_)
    · refine k_iload_n i_55_29 rfl ?_
      refine k_iret i_55_30 rfl ?_
      obtain rfl : i = 8 := by omega
      rw [hc]
      exact k
    · refine k_aload_n i_55_10 rfl ?_
      refine k_getR (r := 12) i_55_11 o_55 rfl (by decide) (s_1) rfl ?_
      refine k_iload_n i_55_14 rfl ?_
      refine k_iald i_55_15 (s_12) (by omega) ?_
      refine k_iconst i_55_16 (by decide) ?_
      refine k_icmp_eq (t := 23) i_55_17 rfl (fun h17 => ?_) (fun h17 => ?_)
      · refine k_iinc (ls' := [some (vR (some 1)), some (vI c), some (vI (i + 1))]) i_55_23 rfl (by omega) rfl ?_
        refine k_goto (t := 4) i_55_26 rfl ?_
        exact ih (i + 1) _ (by omega) (by rw [cntN_s _ _ hi.1, hc]; simp [*]) (by omega)
      · refine k_iinc (ls' := [some (vR (some 1)), some (vI (c + 1)), some (vI i)]) i_55_20 rfl (by omega) rfl ?_
        refine k_iinc (ls' := [some (vR (some 1)), some (vI (c + 1)), some (vI (i + 1))]) i_55_23 rfl (by omega) rfl ?_
        refine k_goto (t := 4) i_55_26 rfl ?_
        exact ih (i + 1) _ (by omega) (by rw [cntN_s _ _ hi.1, hc]; simp [*]) (by omega)

/-- ElbowQueue$Rows.present -/
theorem c_55 {d : Nat} {M : Mem} {Q : Option Vv → Mem → Prop}   (k : Q (some (vI (cntN (M 12) (-1) 8))) M) : Ok d 55 0 [some (vR (some 1)), none, none] [] M Q := by
  refine k_iconst i_55_0 (by decide) ?_
  refine k_istore_n (ls' := [some (vR (some 1)), some (vI 0), none]) i_55_1 rfl ?_
  refine k_iconst i_55_2 (by decide) ?_
  refine k_istore_n (ls' := [some (vR (some 1)), some (vI 0), some (vI 0)]) i_55_3 rfl ?_
  exact l_55 k 9 0 0 (by omega) rfl (by omega)
