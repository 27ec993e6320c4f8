theorem h273 : (SS.take 273).length = 273 := by decide +kernel
theorem t273 : tot (SS.take 273) = 4510 := by decide +kernel
theorem z00 : mzs (fun _ _ => 0) 0 = (fun _ _ => 0 : Mem) := by
  funext b j
  unfold mzs
  split <;> rfl
theorem zr00 : Zr M00 273 := fun b j hb => m00_z j (by omega)
set_option maxHeartbeats 4000000 in
set_option maxRecDepth 100000 in
theorem whole_start {p : Program} {e : Env} {s : State} {m : MethodId} {below : List Frame} {meth : Method} {c : Code} (l : Launch) (hflags : l.flags = flags0) {b L : Nat} {xs : Nat → Int32} (hL : L ≤ 384) (C0 : lw_At p s m meth c b L xs) : W p l e room_1 s m #[Value.ref b] below meth c s.heap [] 0 0 (lw_Z below #[Value.ref b] s) (entryFrame m ([Value.ref b] : List Value).toArray 4) := by
  obtain ⟨hx, hb, hr, hml, hown, hts, hX, hbl, hlocks, hgv⟩ := id C0
  obtain ⟨D, cA, tt, hC⟩ := law_CK hts hgv
  have hLC : LC p s m c b L xs D cA tt := ⟨hx, hb, hml, hown, hC, hX, hbl, hL⟩
  have hl := lv_entry ([.ref b]) (n := 4) (Nat.le_of_ble_eq_true rfl)
  rw [lg_entry_eq]
  generalize (lg_sl ([.ref b]) ++ List.replicate (4 - (lg_sl ([.ref b])).length) Slot.unset).toArray = ls at hl ⊢
  have hl : lv_has ls 4 [(0, .ref b)] := hl
  show W p l e room_1 s m #[Value.ref b] below meth c s.heap [] ([] : List Sh).length (tot []) (lw_Z below #[Value.ref b] s) (F0 m 0 ls [])
  refine lawN (M := fun _ _ => 0) (ci := 7) hx hb hown hC (LIS.z D cA tt s) (by decide) lawC7.1 ⟨by decide, by rw [tot_SS]; decide⟩ dl_0 (fun H1 hH1 => ?_)
  rw [show (mzs (fun _ _ => 0) ([] : List Sh).length) = (fun _ _ => 0 : Mem) from z00] at hH1
  have eS : (([] : List Sh) ++ [(7, fnum 7, List.replicate (fnum 7) none)]) = [(7, 14, [none, none, none, none, none, none, none, none, none, none, none, none, none, none])] := rfl
  rw [eS] at hH1 ⊢
  refine lv_dup hx hb dl_3 rfl ?_
  obtain ⟨n, r, S1, M1, g1, g2, g3, g4⟩ := n_84 (d := 0) (M := fun _ _ => 0) (Q := fun r S M => r = none ∧ S = SS.take 273 ∧ M = M00) (fun _ _ _ => rfl) ⟨rfl, rfl, rfl⟩
  subst g2
  subst g3
  subst g4
  show W p l e room_1 s m #[Value.ref b] below meth c H1 [] _ _ (lw_Z below #[Value.ref b] s) (F0 m 4 ls [.ref (s.heap.size + 0), .ref (s.heap.size + 0)])
  refine lawI (mid' := 84) (a := 0) (idx := 9) hx hb hml hown hC hH1 hl.1 g1 (by decide) rfl y_84 rfl rfl (by decide) lawC7.2.2.1 (by decide) (by decide) dl_4 (by show 1 + 0 ≤ 8; decide) ⟨by rw [h273]; decide, by rw [t273, tot_SS]; decide⟩ (fun H2 locs2 hH2 => ?_)
  refine lv_astore_n (lv' := [(1, .ref (s.heap.size + 0)), (0, .ref b)]) hx hb dl_7 rfl hl (by decide) rfl (fun ls hl => ?_)
  refine lawN (ci := 8) hx hb hown hC hH2 (by decide) lawC7.2.1 ⟨by rw [h273]; decide, by rw [t273, tot_SS]; decide⟩ dl_8 (fun H3 hH3 => ?_)
  rw [h273, zr00.s (Nat.le_refl _)] at hH3
  refine lv_dup hx hb dl_11 rfl ?_
  rw [h273]
  obtain ⟨n, r, S1, M1, g1, g2, g3, g4⟩ := n_121 (d := 0) (P := SS.take 273) (M := M00) (Q := fun r S M => r = none ∧ S = SS ∧ M = M00) h273 zr00 ⟨rfl, List.take_append_drop 273 SS, rfl⟩
  subst g2
  subst g3
  subst g4
  refine lawI (mid' := 121) (a := 273) (idx := 12) hx hb hml hown hC hH3 hl.1 g1 (by decide) rfl y_121 rfl rfl (by decide) lawC7.2.2.2 (by decide) (by decide) dl_12 (by show 1 + 0 ≤ 8; decide) ⟨by rw [SS_len]; decide, Nat.le_refl _⟩ (fun H4 locs4 hH4 => ?_)
  refine lv_astore_n (lv' := [(2, .ref (s.heap.size + 273)), (1, .ref (s.heap.size + 0)), (0, .ref b)]) hx hb dl_15 rfl hl (by decide) rfl (fun ls hl => ?_)
  refine lv_iconst (v := Int32.ofInt 0) hx hb dl_16 rfl ?_
  refine lv_istore_n (lv' := [(3, .int (Int32.ofInt 0)), (2, .ref (s.heap.size + 273)), (1, .ref (s.heap.size + 0)), (0, .ref b)]) hx hb dl_17 rfl hl (by decide) rfl (fun ls hl => ?_)
  exact law_loop hLC hr hlocks 391 0 M00 H4 locs4 ls (by decide) (by decide) (by decide) rel0 hH4 (lv_sub hl [3, 2, 1, 0] rfl)
