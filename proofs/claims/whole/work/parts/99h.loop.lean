theorem and31 (x : Int32) : 0 ≤ (x &&& 31).toInt ∧ (x &&& 31).toInt ≤ 31 := by
  have h : (x &&& 31).toBitVec.toNat ≤ 31 := by
    rw [Int32.toBitVec_and, BitVec.toNat_and]
    exact Nat.and_le_right
  have e : (x &&& 31).toInt = ((x &&& 31).toBitVec.toNat : Int) := BitVec.toInt_eq_toNat_of_lt (by omega)
  omega
theorem ofN (n : Nat) : Int32.ofNat n = Int32.ofInt (n : Int) := (Int32.ofInt_eq_ofNat).symm

section LOOP
variable {p : Program} {l : Launch} {e : Env} {s : State} {m : MethodId} {b L : Nat} {xs : Nat → Int32} {below : List Frame} {meth : Method} {c : Code}
variable {D : va_G} {cA : Nat → ClassId} {tt : Nat → Nat}
set_option maxHeartbeats 4000000 in
theorem law_loop (hLC : LC p s m c b L xs D cA tt) (hret : meth.sig.returnType = ret) (hlocks : meth.locks = false) : ∀ (f : Nat) (t : Int) (M : Mem) (H : Heap) (locs : List Loc) (ls : Array Slot), 0 ≤ t → t ≤ 390 → (390 - t).toNat < f → Rel M → LIS D cA tt s SS M H locs → lv_has ls 4 [(0, .ref b), (1, .ref (s.heap.size + 0)), (2, .ref (s.heap.size + 273)), (3, .int (Int32.ofInt t))] → W p l e room_1 s m #[Value.ref b] below meth c H locs SS.length (tot SS) (lw_Z below #[Value.ref b] s) (F0 m 18 ls []) := by
  intro f
  induction f with
  | zero => intro t M H locs ls h0 h1 hf; exact absurd hf (Nat.not_lt_zero _)
  | succ f ih =>
    intro t M H locs ls h0 h1 hf hr hH hl
    obtain ⟨hx, hb, hml, hown, hC, hX, hbl, hL⟩ := id hLC
    have hbA : ¬ (fun q : Nat => s.heap.size ≤ q) b := Nat.not_le.mpr hbl
    refine lv_iload_n hx hb dl_18 rfl (lv_at hl 3 rfl) ?_
    refine lv_aload_n hx hb dl_19 rfl (lv_at hl 0 rfl) ?_
    refine va_slen (A := fun q => s.heap.size ≤ q) hx hb hX hbl hbA hH.2.1 dl_20 ?_
    refine lv_bipush (v := Int32.ofInt 6) hx hb dl_21 (by decide) ?_
    refine lv_isub hx hb dl_23 ?_
    rw [ofN, ← Int32.ofInt_sub]
    refine lv_icmp_gt (tgt := 1098) hx hb dl_24 (by decide) (fun _ => ?_) (fun q => ?_)
    · refine lv_iconst (v := 1) hx hb dl_1098 (by decide) ?_
      refine va_forget (fun q hq => hH.2.1.2.2 q hq) ?_
      refine W.widen (k := 600000) (n := 7302250) (by rw [SS_len]; omega) (by rw [tot_SS]; omega) ?_
      exact lw_ret hx hb hret hlocks dl_1099
    rw [i32_lt ⟨by omega, by omega⟩ ⟨by omega, by omega⟩] at q
    have K : ∀ M1 H1 locs1, Rel M1 → LIS D cA tt s SS M1 H1 locs1 → W p l e room_1 s m #[Value.ref b] below meth c H1 locs1 SS.length (tot SS) (lw_Z below #[Value.ref b] s) (F0 m 1092 ls []) := by
      intro M1 H1 locs1 hr1 hH1
      refine lv_iinc (v := Int32.ofInt (t + 6)) (lv' := [(3, .int (Int32.ofInt (t + 6))), (0, .ref b), (1, .ref (s.heap.size + 0)), (2, .ref (s.heap.size + 273))]) hx hb dl_1092 hl (k := 3) rfl (by rw [← Int32.ofInt_add]) (by decide) rfl (fun ls1 hl1 => ?_)
      refine lv_goto (tgt := 18) hx hb dl_1095 (by decide) ?_
      exact ih (t + 6) M1 H1 locs1 ls1 (by omega) (by omega) (by omega) hr1 hH1 (lv_sub hl1 [1, 2, 3, 0] rfl)
    refine lv_aload_n hx hb dl_27 rfl (lv_at hl 0 rfl) ?_
    refine lv_iload_n hx hb dl_28 rfl (lv_at hl 3 rfl) ?_
    refine va_sld (A := fun q => s.heap.size ≤ q) hx hb hX hbl hbA hH.2.1 (i32_in ⟨by omega, by omega⟩ (by omega) (by omega)) dl_29 ?_
    refine lv_bipush (v := 31) hx hb dl_30 (by decide) ?_
    refine lv_iand hx hb dl_32 ?_
    have ha := and31 (xs (Int32.ofInt t).toNatClampNeg)
    generalize xs (Int32.ofInt t).toNatClampNeg &&& 31 = x at ha ⊢
    rcases (show x.toInt = 0 ∨ x.toInt = 1 ∨ x.toInt = 2 ∨ x.toInt = 3 ∨ x.toInt = 4 ∨ x.toInt = 5 ∨ x.toInt = 6 ∨ x.toInt = 7 ∨ x.toInt = 8 ∨ x.toInt = 9 ∨ x.toInt = 10 ∨ x.toInt = 11 ∨ x.toInt = 12 ∨ x.toInt = 13 ∨ x.toInt = 14 ∨ x.toInt = 15 ∨ x.toInt = 16 ∨ x.toInt = 17 ∨ x.toInt = 18 ∨ x.toInt = 19 ∨ x.toInt = 20 ∨ x.toInt = 21 ∨ x.toInt = 22 ∨ x.toInt = 23 ∨ x.toInt = 24 ∨ x.toInt = 25 ∨ x.toInt = 26 ∨ x.toInt = 27 ∨ x.toInt = 28 ∨ x.toInt = 29 ∨ x.toInt = 30 ∨ x.toInt = 31 by omega) with hk | hk | hk | hk | hk | hk | hk | hk | hk | hk | hk | hk | hk | hk | hk | hk | hk | hk | hk | hk | hk | hk | hk | hk | hk | hk | hk | hk | hk | hk | hk | hk
    · refine lv_tableIn (tgt := 176) hx hb dl_33 (by rw [hk]; decide) (by rw [hk]; decide) (by rw [hk]; rfl) rfl ?_
      exact lk_0 hLC hl ⟨h0, by omega⟩ hH hr K
    · refine lv_tableIn (tgt := 219) hx hb dl_33 (by rw [hk]; decide) (by rw [hk]; decide) (by rw [hk]; rfl) rfl ?_
      exact lk_1 hLC hl ⟨h0, by omega⟩ hH hr K
    · refine lv_tableIn (tgt := 262) hx hb dl_33 (by rw [hk]; decide) (by rw [hk]; decide) (by rw [hk]; rfl) rfl ?_
      exact lk_2 hLC hl ⟨h0, by omega⟩ hH hr K
    · refine lv_tableIn (tgt := 325) hx hb dl_33 (by rw [hk]; decide) (by rw [hk]; decide) (by rw [hk]; rfl) rfl ?_
      exact lk_3 hLC hl ⟨h0, by omega⟩ hH hr K
    · refine lv_tableIn (tgt := 348) hx hb dl_33 (by rw [hk]; decide) (by rw [hk]; decide) (by rw [hk]; rfl) rfl ?_
      exact lk_4 hLC hl ⟨h0, by omega⟩ hH hr K
    · refine lv_tableIn (tgt := 371) hx hb dl_33 (by rw [hk]; decide) (by rw [hk]; decide) (by rw [hk]; rfl) rfl ?_
      exact lk_5 hLC hl ⟨h0, by omega⟩ hH hr K
    · refine lv_tableIn (tgt := 384) hx hb dl_33 (by rw [hk]; decide) (by rw [hk]; decide) (by rw [hk]; rfl) rfl ?_
      exact lk_6 hLC hl ⟨h0, by omega⟩ hH hr K
    · refine lv_tableIn (tgt := 397) hx hb dl_33 (by rw [hk]; decide) (by rw [hk]; decide) (by rw [hk]; rfl) rfl ?_
      exact lk_7 hLC hl ⟨h0, by omega⟩ hH hr K
    · refine lv_tableIn (tgt := 420) hx hb dl_33 (by rw [hk]; decide) (by rw [hk]; decide) (by rw [hk]; rfl) rfl ?_
      exact lk_8 hLC hl ⟨h0, by omega⟩ hH hr K
    · refine lv_tableIn (tgt := 453) hx hb dl_33 (by rw [hk]; decide) (by rw [hk]; decide) (by rw [hk]; rfl) rfl ?_
      exact lk_9 hLC hl ⟨h0, by omega⟩ hH hr K
    · refine lv_tableIn (tgt := 476) hx hb dl_33 (by rw [hk]; decide) (by rw [hk]; decide) (by rw [hk]; rfl) rfl ?_
      exact lk_10 hLC hl ⟨h0, by omega⟩ hH hr K
    · refine lv_tableIn (tgt := 509) hx hb dl_33 (by rw [hk]; decide) (by rw [hk]; decide) (by rw [hk]; rfl) rfl ?_
      exact lk_11 hLC hl ⟨h0, by omega⟩ hH hr K
    · refine lv_tableIn (tgt := 522) hx hb dl_33 (by rw [hk]; decide) (by rw [hk]; decide) (by rw [hk]; rfl) rfl ?_
      exact lk_12 hLC hl ⟨h0, by omega⟩ hH hr K
    · refine lv_tableIn (tgt := 555) hx hb dl_33 (by rw [hk]; decide) (by rw [hk]; decide) (by rw [hk]; rfl) rfl ?_
      exact lk_13 hLC hl ⟨h0, by omega⟩ hH hr K
    · refine lv_tableIn (tgt := 578) hx hb dl_33 (by rw [hk]; decide) (by rw [hk]; decide) (by rw [hk]; rfl) rfl ?_
      exact lk_14 hLC hl ⟨h0, by omega⟩ hH hr K
    · refine lv_tableIn (tgt := 611) hx hb dl_33 (by rw [hk]; decide) (by rw [hk]; decide) (by rw [hk]; rfl) rfl ?_
      exact lk_15 hLC hl ⟨h0, by omega⟩ hH hr K
    · refine lv_tableIn (tgt := 644) hx hb dl_33 (by rw [hk]; decide) (by rw [hk]; decide) (by rw [hk]; rfl) rfl ?_
      exact lk_16 hLC hl ⟨h0, by omega⟩ hH hr K
    · refine lv_tableIn (tgt := 657) hx hb dl_33 (by rw [hk]; decide) (by rw [hk]; decide) (by rw [hk]; rfl) rfl ?_
      exact lk_17 hLC hl ⟨h0, by omega⟩ hH hr K
    · refine lv_tableIn (tgt := 690) hx hb dl_33 (by rw [hk]; decide) (by rw [hk]; decide) (by rw [hk]; rfl) rfl ?_
      exact lk_18 hLC hl ⟨h0, by omega⟩ hH hr K
    · refine lv_tableIn (tgt := 723) hx hb dl_33 (by rw [hk]; decide) (by rw [hk]; decide) (by rw [hk]; rfl) rfl ?_
      exact lk_19 hLC hl ⟨h0, by omega⟩ hH hr K
    · refine lv_tableIn (tgt := 746) hx hb dl_33 (by rw [hk]; decide) (by rw [hk]; decide) (by rw [hk]; rfl) rfl ?_
      exact lk_20 hLC hl ⟨h0, by omega⟩ hH hr K
    · refine lv_tableIn (tgt := 769) hx hb dl_33 (by rw [hk]; decide) (by rw [hk]; decide) (by rw [hk]; rfl) rfl ?_
      exact lk_21 hLC hl ⟨h0, by omega⟩ hH hr K
    · refine lv_tableIn (tgt := 822) hx hb dl_33 (by rw [hk]; decide) (by rw [hk]; decide) (by rw [hk]; rfl) rfl ?_
      exact lk_22 hLC hl ⟨h0, by omega⟩ hH hr K
    · refine lv_tableIn (tgt := 855) hx hb dl_33 (by rw [hk]; decide) (by rw [hk]; decide) (by rw [hk]; rfl) rfl ?_
      exact lk_23 hLC hl ⟨h0, by omega⟩ hH hr K
    · refine lv_tableIn (tgt := 898) hx hb dl_33 (by rw [hk]; decide) (by rw [hk]; decide) (by rw [hk]; rfl) rfl ?_
      exact lk_24 hLC hl ⟨h0, by omega⟩ hH hr K
    · refine lv_tableIn (tgt := 921) hx hb dl_33 (by rw [hk]; decide) (by rw [hk]; decide) (by rw [hk]; rfl) rfl ?_
      exact lk_25 hLC hl ⟨h0, by omega⟩ hH hr K
    · refine lv_tableIn (tgt := 944) hx hb dl_33 (by rw [hk]; decide) (by rw [hk]; decide) (by rw [hk]; rfl) rfl ?_
      exact lk_26 hLC hl ⟨h0, by omega⟩ hH hr K
    · refine lv_tableIn (tgt := 967) hx hb dl_33 (by rw [hk]; decide) (by rw [hk]; decide) (by rw [hk]; rfl) rfl ?_
      exact lk_27 hLC hl ⟨h0, by omega⟩ hH hr K
    · refine lv_tableIn (tgt := 1000) hx hb dl_33 (by rw [hk]; decide) (by rw [hk]; decide) (by rw [hk]; rfl) rfl ?_
      exact lk_28 hLC hl ⟨h0, by omega⟩ hH hr K
    · refine lv_tableIn (tgt := 1033) hx hb dl_33 (by rw [hk]; decide) (by rw [hk]; decide) (by rw [hk]; rfl) rfl ?_
      exact lk_29 hLC hl ⟨h0, by omega⟩ hH hr K
    · refine lv_tableIn (tgt := 1056) hx hb dl_33 (by rw [hk]; decide) (by rw [hk]; decide) (by rw [hk]; rfl) rfl ?_
      exact lk_30 hLC hl ⟨h0, by omega⟩ hH hr K
    · refine lv_tableIn (tgt := 1079) hx hb dl_33 (by rw [hk]; decide) (by rw [hk]; decide) (by rw [hk]; rfl) rfl ?_
      exact lk_31 hLC hl ⟨h0, by omega⟩ hH hr K
end LOOP
